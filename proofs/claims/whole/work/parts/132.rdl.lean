/-! THE READER: its leaves, on -/
theorem kp_lk {a o d x : Int} {r : List (Int × Int)} (h : ¬ x = a) : Op.lookupswitch.offset ((a, o) :: r) d x = Op.lookupswitch.offset r d x := by
  rw [Op.lookupswitch.offset, if_neg (fun q => h q.symm)]
theorem kp_ne {x y : Int32} (h : ¬ x = y) : ¬ x.toInt = y.toInt := fun q => h (kn_i32 q)
set_option maxRecDepth 20000 in
set_option maxHeartbeats 4000000 in
theorem qX5_levelOf {w : KW} {l : Launch} {u : KMem} (hu : kWd u) (p0 : Int32) : KC w l mX5_levelOf 0 0 0 [.int p0] u (kq (some (.int (kpLv p0))) u) := by
  refine KC.of (ls := [_]) rfl rfl (Nat.le_of_ble_eq_true rfl) ?_
  refine kv_iload_n dX5_levelOf_0 rfl ?_
  by_cases a124 : p0 = 124
  · subst a124
    refine kv_lookup dX5_levelOf_1 84 (by decide +kernel) rfl (by decide +kernel) ?_
    refine kv_iconst dX5_levelOf_84 0 ki_0 ?_
    exact kv_iret dX5_levelOf_85 rfl ⟨rfl, rfl⟩
  by_cases a38 : p0 = 38
  · subst a38
    refine kv_lookup dX5_levelOf_1 86 (by decide +kernel) rfl (by decide +kernel) ?_
    refine kv_iconst dX5_levelOf_86 1 ki_1 ?_
    exact kv_iret dX5_levelOf_87 rfl ⟨rfl, rfl⟩
  by_cases a60 : p0 = 60
  · subst a60
    refine kv_lookup dX5_levelOf_1 88 (by decide +kernel) rfl (by decide +kernel) ?_
    refine kv_iconst dX5_levelOf_88 2 ki_2 ?_
    exact kv_iret dX5_levelOf_89 rfl ⟨rfl, rfl⟩
  by_cases a61 : p0 = 61
  · subst a61
    refine kv_lookup dX5_levelOf_1 88 (by decide +kernel) rfl (by decide +kernel) ?_
    refine kv_iconst dX5_levelOf_88 2 ki_2 ?_
    exact kv_iret dX5_levelOf_89 rfl ⟨rfl, rfl⟩
  by_cases a62 : p0 = 62
  · subst a62
    refine kv_lookup dX5_levelOf_1 88 (by decide +kernel) rfl (by decide +kernel) ?_
    refine kv_iconst dX5_levelOf_88 2 ki_2 ?_
    exact kv_iret dX5_levelOf_89 rfl ⟨rfl, rfl⟩
  by_cases a43 : p0 = 43
  · subst a43
    refine kv_lookup dX5_levelOf_1 90 (by decide +kernel) rfl (by decide +kernel) ?_
    refine kv_iconst dX5_levelOf_90 3 ki_3 ?_
    exact kv_iret dX5_levelOf_91 rfl ⟨rfl, rfl⟩
  by_cases a45 : p0 = 45
  · subst a45
    refine kv_lookup dX5_levelOf_1 90 (by decide +kernel) rfl (by decide +kernel) ?_
    refine kv_iconst dX5_levelOf_90 3 ki_3 ?_
    exact kv_iret dX5_levelOf_91 rfl ⟨rfl, rfl⟩
  by_cases a42 : p0 = 42
  · subst a42
    refine kv_lookup dX5_levelOf_1 92 (by decide +kernel) rfl (by decide +kernel) ?_
    refine kv_iconst dX5_levelOf_92 4 ki_4 ?_
    exact kv_iret dX5_levelOf_93 rfl ⟨rfl, rfl⟩
  by_cases a47 : p0 = 47
  · subst a47
    refine kv_lookup dX5_levelOf_1 92 (by decide +kernel) rfl (by decide +kernel) ?_
    refine kv_iconst dX5_levelOf_92 4 ki_4 ?_
    exact kv_iret dX5_levelOf_93 rfl ⟨rfl, rfl⟩
  refine kv_lookup dX5_levelOf_1 94 (by decide +kernel) (off := 93) ?_ (by decide +kernel) ?_
  · show Op.lookupswitch.offset [(38, 85), (42, 91), (43, 89), (45, 89), (47, 91), (60, 87), (61, 87), (62, 87), (124, 83)] 93 p0.toInt = 93
    rw [kp_lk (show ¬ p0.toInt = 38 from kp_ne (y := 38) a38), kp_lk (show ¬ p0.toInt = 42 from kp_ne (y := 42) a42), kp_lk (show ¬ p0.toInt = 43 from kp_ne (y := 43) a43), kp_lk (show ¬ p0.toInt = 45 from kp_ne (y := 45) a45), kp_lk (show ¬ p0.toInt = 47 from kp_ne (y := 47) a47), kp_lk (show ¬ p0.toInt = 60 from kp_ne (y := 60) a60), kp_lk (show ¬ p0.toInt = 61 from kp_ne (y := 61) a61), kp_lk (show ¬ p0.toInt = 62 from kp_ne (y := 62) a62), kp_lk (show ¬ p0.toInt = 124 from kp_ne (y := 124) a124)]
    rfl
  refine kv_iconst dX5_levelOf_94 (-1) ki_m1 ?_
  refine kv_iret dX5_levelOf_95 rfl ⟨?_, rfl⟩
  unfold kpLv
  rw [if_neg a124, if_neg a38, if_neg (fun q => q.elim a60 (fun z => z.elim a61 a62)), if_neg (fun q => q.elim a43 a45), if_neg (fun q => q.elim a42 a47)]
set_option maxRecDepth 20000 in
set_option maxHeartbeats 4000000 in
theorem qX9_push_lt {w : KW} {l : Launch} {u : KMem} (hu : kWd u) {t : Nat} (ht : t < 10) {c : Nat} (hc : c < 60) (v1 : u.2.1 (1 + (132 + 2 * t)) 1 = nI c) (x : Int32) : KC w l mX9_push 0 0 0 [.ref (1 + (132 + 2 * t)), .int x] u (kq none (kv_si (kv_si u (1 + (132 + 2 * t + 1)) c x) (1 + (132 + 2 * t)) 1 (nI (c + 1)))) := by
  obtain ⟨k1, k2, k3, k4⟩ := ks_treaty t ht
  refine KC.of (ls := [_, _]) rfl rfl (Nat.le_of_ble_eq_true rfl) ?_
  refine kv_aload_n dX9_push_0 rfl ?_
  refine kw_gI dX9_push_1 fX9_22 hu (by first | rfl | assumption) rfl rfl ?_
  rw [v1]
  refine kv_bipush dX9_push_4 60 kb_60 ?_
  refine kv_icmp_ge dX9_push_6 29 (by decide) (fun h1 => ?_) (fun h1 => ?_)
  · exact absurd h1 (fun q => by have := (nI_leI (a := 60) (by omega) (by omega)).mp q; omega)
  · refine kv_aload_n dX9_push_9 rfl ?_
    refine kw_gR dX9_push_10 fX9_9 hu (by first | rfl | assumption) rfl rfl (by first | rfl | assumption) ?_
    refine kv_aload_n dX9_push_13 rfl ?_
    refine kw_gI dX9_push_14 fX9_22 hu (by first | rfl | assumption) rfl rfl ?_
    rw [v1]
    refine kv_iload_n dX9_push_17 rfl ?_
    refine kw_is dX9_push_18 hu (by first | rfl | assumption) (c) rfl (by omega) rfl ?_
    refine kv_aload_n dX9_push_19 rfl ?_
    refine kv_dup dX9_push_20 rfl ?_
    refine kw_gI dX9_push_21 fX9_22 hu (by first | rfl | assumption) rfl rfl ?_
    rw [kv_si_n (by omega), v1]
    refine kv_iconst dX9_push_24 1 ki_1 ?_
    refine kv_iadd dX9_push_25 ?_
    rw [show (nI c + 1 : Int32) = nI (c + 1) from kn_add rfl (show (1 : Int32) = nI 1 from rfl)]
    refine kw_pI dX9_push_26 fX9_22 hu (by first | rfl | assumption) rfl rfl ?_
    exact kv_vret dX9_push_29 rfl ⟨rfl, rfl⟩

set_option maxRecDepth 20000 in
set_option maxHeartbeats 4000000 in
theorem qX9_push_ge {w : KW} {l : Launch} {u : KMem} (hu : kWd u) {t : Nat} (ht : t < 10) (v1 : u.2.1 (1 + (132 + 2 * t)) 1 = nI 60) (x : Int32) : KC w l mX9_push 0 0 0 [.ref (1 + (132 + 2 * t)), .int x] u (kq none u) := by
  obtain ⟨k1, k2, k3, k4⟩ := ks_treaty t ht
  refine KC.of (ls := [_, _]) rfl rfl (Nat.le_of_ble_eq_true rfl) ?_
  refine kv_aload_n dX9_push_0 rfl ?_
  refine kw_gI dX9_push_1 fX9_22 hu (by first | rfl | assumption) rfl rfl ?_
  rw [v1]
  refine kv_bipush dX9_push_4 60 kb_60 ?_
  refine kv_icmp_ge dX9_push_6 29 (by decide) (fun h1 => ?_) (fun h1 => ?_)
  · exact kv_vret dX9_push_29 rfl ⟨rfl, rfl⟩
  · exact absurd (nI_le (a := 60) (b := 60) (by omega) (by omega)) h1

def kpXc (u : KMem) (t : Nat) (cs : List Int32) (v : KMem) : Prop := kEq (kpA t) u v ∧ v.2.1 388 6 = -1 ∧ v.2.1 (1 + (132 + 2 * t)) 1 = nI cs.length ∧ ∀ i, i < cs.length → v.2.1 (1 + (132 + 2 * t + 1)) i = kEnc (cs.getD i 0)
theorem kpXs.c {u v : KMem} {t n : Nat} {B : Nat → Int32} {s : KPs} (h : kpXs u t B n s v) : kpXc u t s.2 v := ⟨h.1, h.2.1, h.2.2.2.2.2.1, h.2.2.2.2.2.2.1⟩
theorem kpXs.mk {u v : KMem} {t n : Nat} {B : Nat → Int32} {s : KPs} (h : kpXc u t s.2 v) (h4 : v.2.1 388 4 = nI s.1) (h5 : v.2.1 388 5 = nI (kpTe B n s.1)) (h3 : v.2.1 388 3 = kpWo B n s.1) (hp : s.1 ≤ n) (hs : s.2.length ≤ s.1) : kpXs u t B n s v := ⟨h.1, h.2.1, h4, h5, h3, h.2.2.1, h.2.2.2, hp, hs⟩
theorem kpXc.step {u v z : KMem} {t : Nat} {cs : List Int32} (ht : t < 10) (h : kpXc u t cs v) (e : kEq kpS1 v z) : kpXc u t cs z :=
  ⟨h.1.tr (e.wk (fun a k q => Or.inl (by unfold kpS1 at q; omega))), (e.2.2.1 _ _ (by unfold kpS1; omega)).trans h.2.1, (e.2.2.1 _ _ (by unfold kpS1; omega)).trans h.2.2.1, fun i hi => (e.2.2.1 _ _ (by unfold kpS1; omega)).trans (h.2.2.2 i hi)⟩
theorem kpGet {cs : List Int32} {c : Int32} : (cs ++ [c]).getD cs.length 0 = c := by
  rw [List.getD_eq_getElem?_getD, List.getElem?_append_right (Nat.le_refl _), Nat.sub_self]
  rfl
theorem kpGetL {cs : List Int32} {c : Int32} {k : Nat} (hk : k < cs.length) : (cs ++ [c]).getD k 0 = cs.getD k 0 := by
  rw [List.getD_eq_getElem?_getD, List.getD_eq_getElem?_getD, List.getElem?_append_left hk]
theorem kpXc.push {u v : KMem} {t : Nat} {cs : List Int32} {c x : Int32} (ht : t < 10) (h : kpXc u t cs v) (hc : kEnc c = x) : kpXc u t (cs ++ [c]) (kv_si (kv_si v (1 + (132 + 2 * t + 1)) cs.length x) (1 + (132 + 2 * t)) 1 (nI (cs.length + 1))) := by
  refine ⟨(h.1.si (Or.inr (Or.inr rfl))).si (Or.inr (Or.inl ⟨rfl, rfl⟩)), ?_, ?_, fun i hi => ?_⟩
  · rw [kv_si_n (by omega), kv_si_n (by omega)]; exact h.2.1
  · rw [kv_si_s, List.length_append]; rfl
  · rw [kv_si_n (by omega)]
    rw [List.length_append, List.length_singleton] at hi
    by_cases q : i = cs.length
    · subst q; rw [kv_si_s, kpGet, hc]
    · rw [kv_si_n (by omega), kpGetL (by omega)]; exact h.2.2.2 i (by omega)
theorem kpXs.er {u v : KMem} {t n : Nat} {B : Nat → Int32} {s : KPs} (ht : t < 10) (hn : n ≤ 60) (h : kpXs u t B n s v) : kpXe u t s.1 (kv_si v 388 6 (nI s.1)) := by
  obtain ⟨g1, g2, g3, g4, g5, g6, g7, g8, g9⟩ := h
  exact ⟨g1.si (Or.inl ⟨rfl, by decide, by decide⟩), kv_si_s _ _ _ _, by omega, s.2.length, by omega, by rw [kv_si_n (by omega)]; exact g6⟩
set_option maxRecDepth 20000 in
set_option maxHeartbeats 4000000 in
theorem qX5_fail_ok {w : KW} {l : Launch} {u : KMem} {t : Nat} {B : Nat → Int32} {n use : Nat} (cx : kpCx u t B n use) {v : KMem} {s : KPs} (hX : kpXs u t B n s v) : KC w l mX5_fail 0 0 0 [.ref 388] v (fun r z => r = none ∧ kpXe u t s.1 z) := by
  have hu := cx.wd
  have ht := cx.ht
  have hn := cx.hn
  obtain ⟨E, g6, g4, g5, g3, gc, gs, hp, hsl⟩ := id hX
  have hv := E.wd hu
  refine KC.of (ls := [_]) rfl rfl (Nat.le_of_ble_eq_true rfl) ?_
  refine kv_aload_n dX5_fail_0 rfl ?_
  refine kw_gI dX5_fail_1 fX5_32 hv (by first | rfl | assumption) rfl rfl ?_
  rw [g6]
  refine kv_if_ge dX5_fail_4 15 (by decide) (fun h1 => ?_) (fun h1 => ?_)
  · exact absurd h1 (by decide)
  · refine kv_aload_n dX5_fail_7 rfl ?_
    refine kv_aload_n dX5_fail_8 rfl ?_
    refine kw_gI dX5_fail_9 fX5_48 hv (by first | rfl | assumption) rfl rfl ?_
    rw [g4]
    refine kw_pI dX5_fail_12 fX5_32 hv (by first | rfl | assumption) rfl rfl ?_
    exact kv_vret dX5_fail_15 rfl ⟨rfl, hX.er ht hn⟩

set_option maxRecDepth 20000 in
set_option maxHeartbeats 4000000 in
theorem qX5_fail_er {w : KW} {l : Launch} {u : KMem} {t : Nat} {B : Nat → Int32} {n use : Nat} (cx : kpCx u t B n use) {v : KMem} {f : Nat} (hX : kpXe u t f v) : KC w l mX5_fail 0 0 0 [.ref 388] v (fun r z => r = none ∧ kpXe u t f z) := by
  have hu := cx.wd
  have ht := cx.ht
  have hn := cx.hn
  obtain ⟨E, g6, hf, c0, hc0, gc⟩ := id hX
  have hv := E.wd hu
  refine KC.of (ls := [_]) rfl rfl (Nat.le_of_ble_eq_true rfl) ?_
  refine kv_aload_n dX5_fail_0 rfl ?_
  refine kw_gI dX5_fail_1 fX5_32 hv (by first | rfl | assumption) rfl rfl ?_
  rw [g6]
  refine kv_if_ge dX5_fail_4 15 (by decide) (fun h1 => ?_) (fun h1 => ?_)
  · exact kv_vret dX5_fail_15 rfl ⟨rfl, hX⟩
  · exact absurd (nI_le (a := 0) (by omega) (by omega)) h1

theorem kpXs.next {u v z : KMem} {t n : Nat} {B : Nat → Int32} {s : KPs} {cs : List Int32} (ht : t < 10) (hp : s.1 < n) (hc : kpXc u t cs v) (hl : cs.length ≤ s.1 + 1) (e : kEq kpS1 v z) (z4 : z.2.1 388 4 = nI (kpNx B n s.1)) (z5 : z.2.1 388 5 = nI (kpTe B n (kpNx B n s.1))) (z3 : z.2.1 388 3 = kpWo B n (kpNx B n s.1)) : kpXs u t B n (kpNx B n s.1, cs) z := by
  have := kpNx_lt (B := B) hp
  exact kpXs.mk (hc.step ht e) z4 z5 z3 this.2 (by show cs.length ≤ kpNx B n s.1; omega)
set_option maxRecDepth 20000 in
set_option maxHeartbeats 4000000 in
theorem qX5_expect_ok {w : KW} {l : Launch} {u : KMem} {t : Nat} {B : Nat → Int32} {n use : Nat} (cx : kpCx u t B n use) {v : KMem} {s : KPs} (hX : kpXs u t B n s v) {c : Int32} (hc : ¬ c = -1) {op : Nat} (hop : op ≤ 5) : KC w l mX5_expect 2 0 0 [.ref 388, .int c, .int (nI op)] v (fun r z => r = none ∧ kpXr u t B n (kpEx B n c op s) z) := by
  have hu := cx.wd
  have ht := cx.ht
  have hn := cx.hn
  obtain ⟨E, g6, g4, g5, g3, gc, gs, hp, hsl⟩ := id hX
  have hv := E.wd hu
  refine KC.of (ls := [_, _, _]) rfl rfl (Nat.le_of_ble_eq_true rfl) ?_
  refine kv_aload_n dX5_expect_0 rfl ?_
  refine kw_gI dX5_expect_1 fX5_32 hv (by first | rfl | assumption) rfl rfl ?_
  rw [g6]
  refine kv_if_ge dX5_expect_4 27 (by decide) (fun h1 => ?_) (fun h1 => ?_)
  · exact absurd h1 (by decide)
  · refine kv_aload_n dX5_expect_7 rfl ?_
    refine kw_gI dX5_expect_8 fX5_42 hv (by first | rfl | assumption) rfl rfl ?_
    rw [g3]
    refine kv_iload_n dX5_expect_11 rfl ?_
    refine kv_icmp_ne dX5_expect_12 27 (by decide) (fun h2 => ?_) (fun h2 => ?_)
    · have hS : kpEx B n c op s = .error s.1 := if_neg (fun q => h2 q.1)
      refine kv_aload_n dX5_expect_27 rfl ?_
      refine kw_VQ [] mX5_fail dX5_expect_28 lX5_45 wX5_fail kC5 hv rfl (by first | rfl | assumption) rfl rfl rfl (qX5_fail_ok cx hX) (by decide) (fun _ v2 q2 => ?_)
      obtain ⟨rfl, xe⟩ := q2
      have hvs := xe.1.wd hu
      exact kv_vret dX5_expect_31 rfl (by rw [hS]; first | exact ⟨rfl, xe⟩ | exact ⟨rfl, kpXs.next ht hlt hX.c (by omega) es z4 z5 z3⟩)
    · have hw : kpWo B n s.1 = c := h2
      refine kv_iload_n dX5_expect_15 rfl ?_
      refine kv_iconst dX5_expect_16 5 ki_5 ?_
      refine kv_icmp_ge dX5_expect_17 27 (by decide) (fun h3 => ?_) (fun h3 => ?_)
      · have hS : kpEx B n c op s = .error s.1 := if_neg (fun q => absurd q.2 (Nat.not_lt.mpr ((nI_leI (a := 5) (by omega) (by omega)).mp h3)))
        refine kv_aload_n dX5_expect_27 rfl ?_
        refine kw_VQ [] mX5_fail dX5_expect_28 lX5_45 wX5_fail kC5 hv rfl (by first | rfl | assumption) rfl rfl rfl (qX5_fail_ok cx hX) (by decide) (fun _ v2 q2 => ?_)
        obtain ⟨rfl, xe⟩ := q2
        have hvs := xe.1.wd hu
        exact kv_vret dX5_expect_31 rfl (by rw [hS]; first | exact ⟨rfl, xe⟩ | exact ⟨rfl, kpXs.next ht hlt hX.c (by omega) es z4 z5 z3⟩)
      · have hop5 : op < 5 := Nat.lt_of_not_le (fun q => h3 (nI_le (a := 5) q (by omega)))
        have hS : kpEx B n c op s = .ok (kpNx B n s.1, s.2) := if_pos ⟨hw, hop5⟩
        have hlt : s.1 < n := kpWo_lt (fun q => hc (hw.symm.trans q))
        refine kv_aload_n dX5_expect_20 rfl ?_
        refine kw_VQ [] mX5_step dX5_expect_21 lX5_35 wX5_step kC5 hv rfl (by first | rfl | assumption) rfl rfl rfl (qX5_step (cx.of E) (kpTe B n s.1) (kpTe_le hp).2 g5) (by decide) (fun _ v1 q1 => ?_)
        obtain ⟨rfl, es, z4, z5, z3⟩ := q1
        have hvs := es.wd hv
        refine kv_goto dX5_expect_24 31 (by decide) ?_
        exact kv_vret dX5_expect_31 rfl (by rw [hS]; first | exact ⟨rfl, xe⟩ | exact ⟨rfl, kpXs.next ht hlt hX.c (by omega) es z4 z5 z3⟩)

set_option maxRecDepth 20000 in
set_option maxHeartbeats 4000000 in
theorem qX5_expect_er {w : KW} {l : Launch} {u : KMem} {t : Nat} {B : Nat → Int32} {n use : Nat} (cx : kpCx u t B n use) {v : KMem} {f : Nat} (hX : kpXe u t f v) {c o : Int32} : KC w l mX5_expect 2 0 0 [.ref 388, .int c, .int o] v (fun r z => r = none ∧ kpXe u t f z) := by
  have hu := cx.wd
  have ht := cx.ht
  have hn := cx.hn
  obtain ⟨E, g6, hf, c0, hc0, gc⟩ := id hX
  have hv := E.wd hu
  refine KC.of (ls := [_, _, _]) rfl rfl (Nat.le_of_ble_eq_true rfl) ?_
  refine kv_aload_n dX5_expect_0 rfl ?_
  refine kw_gI dX5_expect_1 fX5_32 hv (by first | rfl | assumption) rfl rfl ?_
  rw [g6]
  refine kv_if_ge dX5_expect_4 27 (by decide) (fun h1 => ?_) (fun h1 => ?_)
  · refine kv_aload_n dX5_expect_27 rfl ?_
    refine kw_VQ [] mX5_fail dX5_expect_28 lX5_45 wX5_fail kC5 hv rfl (by first | rfl | assumption) rfl rfl rfl (qX5_fail_er cx hX) (by decide) (fun _ v2 q2 => ?_)
    obtain ⟨rfl, xe⟩ := q2
    have hvs := xe.1.wd hu
    exact kv_vret dX5_expect_31 rfl ⟨rfl, xe⟩
  · exact absurd (nI_le (a := 0) (by omega) (by omega)) h1

theorem qX5_expect {w : KW} {l : Launch} {u : KMem} {t : Nat} {B : Nat → Int32} {n use : Nat} (cx : kpCx u t B n use) {v : KMem} {r : KPt} (hX : kpXr u t B n r v) {c : Int32} (hc : ¬ c = -1) {op : Nat} (hop : op ≤ 5) : KC w l mX5_expect 2 0 0 [.ref 388, .int c, .int (nI op)] v (fun q z => q = none ∧ kpXr u t B n (kpBd r (kpEx B n c op)) z) := by
  cases r with
  | ok s => exact qX5_expect_ok cx hX hc hop
  | error f => exact qX5_expect_er cx hX
theorem kpXe.push {u v : KMem} {t f c0 : Nat} {x : Int32} (ht : t < 10) (hX : kpXe u t f v) (hc : c0 < 60) : kpXe u t f (kv_si (kv_si v (1 + (132 + 2 * t + 1)) c0 x) (1 + (132 + 2 * t)) 1 (nI (c0 + 1))) := by
  obtain ⟨E, g6, hf, c1, hc1, gc⟩ := hX
  exact ⟨(E.si (Or.inr (Or.inr rfl))).si (Or.inr (Or.inl ⟨rfl, rfl⟩)), by rw [kv_si_n (by omega), kv_si_n (by omega)]; exact g6, hf, c0 + 1, by omega, kv_si_s _ _ _ _⟩
theorem kpKC {w : KW} {l : Launch} {m : KM} {d : Nat} {as : List Value} {u : KMem} {Q Q2 : Option Value → KMem → Prop} (h : KC w l m d 0 0 as u Q) (hq : ∀ r v, Q r v → Q2 r v) : KC w l m d 0 0 as u Q2 := h.post hq
theorem qX5_push {w : KW} {l : Launch} {u : KMem} {t : Nat} {B : Nat → Int32} {n use : Nat} (cx : kpCx u t B n use) {v : KMem} {r : KPt} (hX : kpXr u t B n r v) {c x : Int32} (hc : kEnc c = x) (hs : ∀ s, r = .ok s → s.2.length < s.1) : KC w l mX9_push 0 0 0 [.ref (1 + (132 + 2 * t)), .int x] v (fun q z => q = none ∧ kpXr u t B n (kpBd r (kpPu c)) z) := by
  have ht := cx.ht
  have hn := cx.hn
  cases r with
  | ok s =>
    obtain ⟨E, g6, g4, g5, g3, gc, gs, hp, hsl⟩ := id hX
    have hl := hs s rfl
    refine kpKC (qX9_push_lt (E.wd cx.wd) ht (c := s.2.length) (by omega) gc x) (fun r z q => ?_)
    obtain ⟨rfl, rfl⟩ := q
    refine ⟨rfl, kpXs.mk (s := (s.1, s.2 ++ [c])) ((kpXs.c hX).push ht hc) ?_ ?_ ?_ hp ?_⟩
    · rw [kv_si_n (by omega), kv_si_n (by omega)]; exact g4
    · rw [kv_si_n (by omega), kv_si_n (by omega)]; exact g5
    · rw [kv_si_n (by omega), kv_si_n (by omega)]; exact g3
    · show (s.2 ++ [c]).length ≤ s.1
      rw [List.length_append, List.length_singleton]; omega
  | error f =>
    obtain ⟨E, g6, hf, c0, hc0, gc⟩ := id hX
    by_cases q : c0 < 60
    · exact kpKC (qX9_push_lt (E.wd cx.wd) ht q gc x) (fun r z q2 => by obtain ⟨rfl, rfl⟩ := q2; exact ⟨rfl, kpXe.push ht hX q⟩)
    · have e : c0 = 60 := by omega
      rw [e] at gc
      exact kpKC (qX9_push_ge (E.wd cx.wd) ht gc x) (fun r z q2 => by obtain ⟨rfl, rfl⟩ := q2; exact ⟨rfl, hX⟩)
