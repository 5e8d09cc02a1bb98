/-! THE READER: levels -/
theorem kpXr.e {u v : KMem} {t n : Nat} {B : Nat → Int32} : ∀ {r : KPt}, kpXr u t B n r v → kEq (kpA t) u v
  | .ok _, h => h.1
  | .error _, h => h.1
theorem kpMM_sl {B : Nat → Int32} {n op : Nat} {R : Nat → Nat → KPs → KPt} (hR : ∀ o s t, s.1 ≤ n → R 0 o s = .ok t → kpGd n 1 s t) {s t : KPs} (hp : s.1 < n) (hs : s.2.length ≤ s.1)
    (h : kpBd (kpBd (kpBd (kpBd (kpEx B n 40 op (kpNx B n s.1, s.2)) (R 0 (op + 1))) (kpEx B n 44 0)) (R 0 (op + 1))) (kpEx B n 41 0) = .ok t) : t.2.length < t.1 := by
  obtain ⟨s4, h, e5⟩ := kpBd_ok h
  obtain ⟨s3, h, e4⟩ := kpBd_ok h
  obtain ⟨s2, h, e3⟩ := kpBd_ok h
  obtain ⟨s1, e1, e2⟩ := kpBd_ok h
  have hx := kpNx_lt (B := B) hp
  obtain ⟨a1, a2, a3⟩ := kpEx_gd (by decide) e1
  obtain ⟨b1, b2, b3, b4⟩ := hR _ _ _ a2 e2
  obtain ⟨c1, c2, c3⟩ := kpEx_gd (by decide) e3
  obtain ⟨d1, d2, d3, d4⟩ := hR _ _ _ c2 e4
  obtain ⟨f1, f2, f3⟩ := kpEx_gd (by decide) e5
  have a1' : kpNx B n s.1 < s1.1 := a1
  have a3' : s1.2 = s.2 := a3
  rw [a3'] at b3
  rw [c3] at d3
  rw [f3]
  omega
theorem kpSl {B : Nat → Int32} {n use D lev op : Nat} (hB : ∀ i, i < n → kUp (B i) 255) {s t : KPs} (hp : s.1 < n) (hs : s.2.length ≤ s.1) (h : kpPr B n use D lev op (kpNx B n s.1, s.2) = .ok t) : t.2.length < t.1 := by
  have hx := kpNx_lt (B := B) hp
  obtain ⟨b1, b2, b3, b4⟩ := kpPr_gd hB D _ _ _ _ (show (kpNx B n s.1, s.2).1 ≤ n from hx.2) h
  have b3' : t.2.length + kpNx B n s.1 ≤ t.1 + s.2.length := b3
  omega
theorem kpLvl_ne {B : Nat → Int32} {n p lev : Nat} (hl : lev < 5) (h : kpLv (kpWo B n p) = nI lev) : p < n := kpWo_lt (kpLv_ne hl h).1.2.2.1
set_option maxRecDepth 20000 in
set_option maxHeartbeats 4000000 in
theorem qX5_level_er {w : KW} {l : Launch} {u : KMem} {t : Nat} {B : Nat → Int32} {n use : Nat} (cx : kpCx u t B n use) {v : KMem} {f : Nat} (hX : kpXe u t f v) (d : Nat) (x y : Int32) : KC w l mX5_level d 0 0 [.ref 388, .int x, .int y] v (fun r z => r = none ∧ kpXe u t f z) := by
  have hu := cx.wd
  have ht := cx.ht
  have hn := cx.hn
  obtain ⟨E, g6, hf, c0, hc0, gc⟩ := id hX
  have hv := E.wd hu
  refine KC.of (ls := [_, _, _, _, _, _]) rfl rfl (Nat.le_of_ble_eq_true rfl) ?_
  refine kv_aload_n dX5_level_0 rfl ?_
  refine kw_gI dX5_level_1 fX5_32 hv (by first | rfl | assumption) rfl rfl ?_
  rw [g6]
  refine kv_if_lt dX5_level_4 8 (by decide) (fun h1 => ?_) (fun h1 => ?_)
  · exact absurd h1 (nI_pos (by omega))
  · exact kv_vret dX5_level_7 rfl ⟨rfl, hX⟩

theorem qX5_deep {w : KW} {l : Launch} {u : KMem} {t : Nat} {B : Nat → Int32} {n use : Nat} (cx : kpCx u t B n use) {D : Nat} (hL : ∀ (lev op : Nat) (r : KPt) (v : KMem), lev ≤ 5 → op ≤ 5 → 36 ≤ D + lev + 6 * op → kpXr u t B n r v → KC w l mX5_level (3 * D + 4) 0 0 [.ref 388, .int (nI (lev)), .int (nI (op))] v (fun q z => q = none ∧ kpXr u t B n (kpBd r (kpPr B n use D (lev) (op))) z)) {op : Nat} (hop : op ≤ 5) (hD : 36 ≤ D + 1 + 5 + 6 * op) {r : KPt} {v : KMem} (hX : kpXr u t B n r v) (h5 : op < 5 ∨ ∃ f, r = .error f) : KC w l mX5_level (3 * D + 4) 0 0 [.ref 388, .int (nI (0)), .int (nI (op + 1))] v (fun q z => q = none ∧ kpXr u t B n (kpBd r (kpPr B n use D (0) (op + 1))) z) := by
  by_cases q : op < 5
  · exact hL 0 (op + 1) r v (by omega) (by omega) (by omega) hX
  · rcases h5 with z | ⟨f, rfl⟩
    · exact absurd z q
    · exact qX5_level_er cx hX _ _ _
theorem kpEx_5 {B : Nat → Int32} {n op : Nat} {c : Int32} (s : KPs) : op < 5 ∨ ∃ f, kpEx B n c op s = .error f := by
  by_cases q : op < 5
  · exact Or.inl q
  · exact Or.inr ⟨s.1, if_neg (fun z => q z.2)⟩
theorem kpBd_e {r : KPt} {f : KPs → KPt} {op : Nat} (h : op < 5 ∨ ∃ e, r = .error e) : op < 5 ∨ ∃ e, kpBd r f = .error e := h.imp id (fun ⟨e, q⟩ => ⟨e, by rw [q]; rfl⟩)
set_option maxRecDepth 20000 in
set_option maxHeartbeats 4000000 in
theorem qX5_named {w : KW} {l : Launch} {u : KMem} {t : Nat} {B : Nat → Int32} {n use : Nat} (cx : kpCx u t B n use) {D : Nat} (hL : ∀ (lev op : Nat) (r : KPt) (v : KMem), lev ≤ 5 → op ≤ 5 → 36 ≤ D + lev + 6 * op → kpXr u t B n r v → KC w l mX5_level (3 * D + 4) 0 0 [.ref 388, .int (nI (lev)), .int (nI (op))] v (fun q z => q = none ∧ kpXr u t B n (kpBd r (kpPr B n use D (lev) (op))) z)) (hO : ∀ (op : Nat) (s : KPs) (v : KMem), op ≤ 5 → 36 ≤ D + 5 + 6 * op → kpXs u t B n s v → KC w l mX5_one (3 * D + 3) 0 0 [.ref 388, .int (nI op)] v (fun q z => q = none ∧ kpXr u t B n (kpPr B n use D 5 op s) z)) {op : Nat} (hop : op ≤ 5) (hD : 36 ≤ D + 1 + 5 + 6 * op) {v : KMem} {s : KPs} (hX : kpXs u t B n s v) (hlt : s.1 < n) (hl : kpLr (B s.1) = true) : KC w l mX5_named (3 * D + 5) 0 0 [.ref 388, .int (nI op)] v (fun r z => r = none ∧ kpXr u t B n (kpNd B n use (kpPr B n use D) op s) z) := by
  have hu := cx.wd
  have ht := cx.ht
  have hn := cx.hn
  obtain ⟨E, g6, g4, g5, g3, gc, gs, hp, hsl⟩ := id hX
  have hv := E.wd hu
  have hte := kpTe_le (B := B) hp
  obtain ⟨k1, k2, k3, k4⟩ := ks_treaty t ht
  refine KC.of (ls := [_, _, _]) rfl rfl (Nat.le_of_ble_eq_true rfl) ?_
  refine kv_aload_n dX5_named_0 rfl ?_
  refine kv_bipush dX5_named_1 109 kb_109 ?_
  refine kv_bipush dX5_named_3 97 kb_97 ?_
  refine kv_bipush dX5_named_5 120 kb_120 ?_
  refine kw_Vi [_, _, _] mX5_isWord dX5_named_7 lX5_83 wX5_isWord kC5 hv rfl (by first | rfl | assumption) rfl rfl rfl (qX5_isWord cx hX _ _ _) (by omega) ?_
  refine kw_beq dX5_named_10 18 (by decide) (fun h1 => ?_) (fun h1 => ?_)
  · have m1 := h1
    refine kv_aload_n dX5_named_18 rfl ?_
    refine kv_bipush dX5_named_19 109 kb_109 ?_
    refine kv_bipush dX5_named_21 105 kb_105 ?_
    refine kv_bipush dX5_named_23 110 kb_110 ?_
    refine kw_Vi [_, _, _] mX5_isWord dX5_named_25 lX5_83 wX5_isWord kC5 hv rfl (by first | rfl | assumption) rfl rfl rfl (qX5_isWord cx hX _ _ _) (by omega) ?_
    refine kw_beq dX5_named_28 36 (by decide) (fun h2 => ?_) (fun h2 => ?_)
    · have m2 := h2
      have hS : kpNd B n use (kpPr B n use D) op s = kpNa B n use s := (if_neg m1).trans (if_neg m2)
      refine kv_iconst dX5_named_36 0 ki_0 ?_
      refine kv_istore_n (ls2 := [_, _, _]) dX5_named_37 rfl rfl rfl rfl ?_
      refine kv_iload_n dX5_named_38 rfl ?_
      refine kv_if_ne dX5_named_39 47 (by decide) (fun h3 => ?_) (fun h3 => ?_)
      · exact absurd h3 (by decide)
      · refine kv_aload_n dX5_named_42 rfl ?_
        refine kw_VQ [] mX5_name dX5_named_43 lX5_87 wX5_name kC5 hv rfl (by first | rfl | assumption) rfl rfl rfl (qX5_name cx hX hlt hl) (by omega) (fun _ v9 q9 => ?_)
        obtain ⟨rfl, x9⟩ := q9
        have e9 := x9.e
        have hv9 := e9.wd hu
        exact kv_vret dX5_named_46 rfl (by rw [hS]; exact ⟨rfl, x9⟩)
    · have m2 := h2
      have hS : kpNd B n use (kpPr B n use D) op s = kpMM B n (kpPr B n use D) op 20010 s := (if_neg m1).trans (if_pos m2)
      refine kv_bipush dX5_named_31 108 kb_108 ?_
      refine kv_goto dX5_named_33 37 (by decide) ?_
      refine kv_istore_n (ls2 := [_, _, _]) dX5_named_37 rfl rfl rfl rfl ?_
      refine kv_iload_n dX5_named_38 rfl ?_
      refine kv_if_ne dX5_named_39 47 (by decide) (fun h4 => ?_) (fun h4 => ?_)
      · refine kv_aload_n dX5_named_47 rfl ?_
        refine kw_VQ [] mX5_step dX5_named_48 lX5_35 wX5_step kC5 hv rfl (by first | rfl | assumption) rfl rfl rfl (qX5_step (cx.of E) (kpTe B n s.1) hte.2 g5) (by omega) (fun _ v1 q1 => ?_)
        obtain ⟨rfl, es, z4, z5, z3⟩ := q1
        have x1 : kpXr u t B n (.ok (kpNx B n s.1, s.2)) v1 := kpXs.next ht hlt hX.c (by omega) es z4 z5 z3
        have e1 := x1.e
        have hv1 := e1.wd hu
        refine kv_aload_n dX5_named_51 rfl ?_
        refine kv_bipush dX5_named_52 40 kb_40 ?_
        refine kv_iload_n dX5_named_54 rfl ?_
        refine kw_VQ [_, _] mX5_expect dX5_named_55 lX5_80 wX5_expect kC5 hv1 rfl (by first | rfl | assumption) rfl rfl rfl (qX5_expect cx x1 (c := 40) (by decide) hop) (by omega) (fun _ v2 q2 => ?_)
        obtain ⟨rfl, x2⟩ := q2
        have e2 := x2.e
        have hv2 := e2.wd hu
        have y2 := kpEx_5 (B := B) (n := n) (op := op) (c := 40) (kpNx B n s.1, s.2)
        refine kv_aload_n dX5_named_58 rfl ?_
        refine kv_iconst dX5_named_59 0 ki_0 ?_
        refine kv_iload_n dX5_named_60 rfl ?_
        refine kv_iconst dX5_named_61 1 ki_1 ?_
        refine kv_iadd dX5_named_62 ?_
        rw [show (nI op + 1 : Int32) = nI (op + 1) from kn_add rfl (show (1 : Int32) = nI 1 from rfl)]
        refine kw_VQ [_, _] mX5_level dX5_named_63 lX5_38 wX5_level kC5 hv2 rfl (by first | rfl | assumption) rfl rfl rfl (qX5_deep cx hL hop hD x2 y2) (by omega) (fun _ v3 q3 => ?_)
        obtain ⟨rfl, x3⟩ := q3
        have e3 := x3.e
        have hv3 := e3.wd hu
        refine kv_aload_n dX5_named_66 rfl ?_
        refine kv_bipush dX5_named_67 44 kb_44 ?_
        refine kv_iconst dX5_named_69 0 ki_0 ?_
        refine kw_VQ [_, _] mX5_expect dX5_named_70 lX5_80 wX5_expect kC5 hv3 rfl (by first | rfl | assumption) rfl rfl rfl (qX5_expect cx x3 (c := 44) (op := 0) (by decide) (by omega)) (by omega) (fun _ v4 q4 => ?_)
        obtain ⟨rfl, x4⟩ := q4
        have e4 := x4.e
        have hv4 := e4.wd hu
        refine kv_aload_n dX5_named_73 rfl ?_
        refine kv_iconst dX5_named_74 0 ki_0 ?_
        refine kv_iload_n dX5_named_75 rfl ?_
        refine kv_iconst dX5_named_76 1 ki_1 ?_
        refine kv_iadd dX5_named_77 ?_
        rw [show (nI op + 1 : Int32) = nI (op + 1) from kn_add rfl (show (1 : Int32) = nI 1 from rfl)]
        refine kw_VQ [_, _] mX5_level dX5_named_78 lX5_38 wX5_level kC5 hv4 rfl (by first | rfl | assumption) rfl rfl rfl (qX5_deep cx hL hop hD x4 (kpBd_e (kpBd_e y2))) (by omega) (fun _ v5 q5 => ?_)
        obtain ⟨rfl, x5⟩ := q5
        have e5 := x5.e
        have hv5 := e5.wd hu
        refine kv_aload_n dX5_named_81 rfl ?_
        refine kv_bipush dX5_named_82 41 kb_41 ?_
        refine kv_iconst dX5_named_84 0 ki_0 ?_
        refine kw_VQ [_, _] mX5_expect dX5_named_85 lX5_80 wX5_expect kC5 hv5 rfl (by first | rfl | assumption) rfl rfl rfl (qX5_expect cx x5 (c := 41) (op := 0) (by decide) (by omega)) (by omega) (fun _ v6 q6 => ?_)
        obtain ⟨rfl, x6⟩ := q6
        have e6 := x6.e
        have hv6 := e6.wd hu
        refine kv_aload_n dX5_named_88 rfl ?_
        refine kw_gRh dX5_named_89 fX5_25 hv6 (by first | rfl | assumption) rfl rfl (by rw [(e6).2.1]; exact cx.f2) ?_
        refine kv_sipush dX5_named_92 (-1000) kz_m1000 ?_
        refine kv_iload_n dX5_named_95 rfl ?_
        refine kv_isub dX5_named_96 ?_
        rw [show (((-1000) : Int32) - 108) = (-1108) from rfl]
        refine kw_VQ [_] mX9_push dX5_named_97 lX5_68 wX9_push kC9 hv6 rfl (by first | rfl | assumption) rfl rfl rfl (qX5_push cx x6 (c := 20010) (by decide) (fun s5 q => kpMM_sl (fun o s t => kpPr_gd cx.hB D 0 o s t) hlt hsl q)) (by omega) (fun _ v7 q7 => ?_)
        obtain ⟨rfl, x7⟩ := q7
        have e7 := x7.e
        have hv7 := e7.wd hu
        exact kv_vret dX5_named_100 rfl (by rw [hS]; exact ⟨rfl, x7⟩)
      · exact absurd h4 (by decide)
  · have m1 := h1
    have hS : kpNd B n use (kpPr B n use D) op s = kpMM B n (kpPr B n use D) op 20009 s := if_pos m1
    refine kv_bipush dX5_named_13 103 kb_103 ?_
    refine kv_goto dX5_named_15 37 (by decide) ?_
    refine kv_istore_n (ls2 := [_, _, _]) dX5_named_37 rfl rfl rfl rfl ?_
    refine kv_iload_n dX5_named_38 rfl ?_
    refine kv_if_ne dX5_named_39 47 (by decide) (fun h5 => ?_) (fun h5 => ?_)
    · refine kv_aload_n dX5_named_47 rfl ?_
      refine kw_VQ [] mX5_step dX5_named_48 lX5_35 wX5_step kC5 hv rfl (by first | rfl | assumption) rfl rfl rfl (qX5_step (cx.of E) (kpTe B n s.1) hte.2 g5) (by omega) (fun _ v1 q1 => ?_)
      obtain ⟨rfl, es, z4, z5, z3⟩ := q1
      have x1 : kpXr u t B n (.ok (kpNx B n s.1, s.2)) v1 := kpXs.next ht hlt hX.c (by omega) es z4 z5 z3
      have e1 := x1.e
      have hv1 := e1.wd hu
      refine kv_aload_n dX5_named_51 rfl ?_
      refine kv_bipush dX5_named_52 40 kb_40 ?_
      refine kv_iload_n dX5_named_54 rfl ?_
      refine kw_VQ [_, _] mX5_expect dX5_named_55 lX5_80 wX5_expect kC5 hv1 rfl (by first | rfl | assumption) rfl rfl rfl (qX5_expect cx x1 (c := 40) (by decide) hop) (by omega) (fun _ v2 q2 => ?_)
      obtain ⟨rfl, x2⟩ := q2
      have e2 := x2.e
      have hv2 := e2.wd hu
      have y2 := kpEx_5 (B := B) (n := n) (op := op) (c := 40) (kpNx B n s.1, s.2)
      refine kv_aload_n dX5_named_58 rfl ?_
      refine kv_iconst dX5_named_59 0 ki_0 ?_
      refine kv_iload_n dX5_named_60 rfl ?_
      refine kv_iconst dX5_named_61 1 ki_1 ?_
      refine kv_iadd dX5_named_62 ?_
      rw [show (nI op + 1 : Int32) = nI (op + 1) from kn_add rfl (show (1 : Int32) = nI 1 from rfl)]
      refine kw_VQ [_, _] mX5_level dX5_named_63 lX5_38 wX5_level kC5 hv2 rfl (by first | rfl | assumption) rfl rfl rfl (qX5_deep cx hL hop hD x2 y2) (by omega) (fun _ v3 q3 => ?_)
      obtain ⟨rfl, x3⟩ := q3
      have e3 := x3.e
      have hv3 := e3.wd hu
      refine kv_aload_n dX5_named_66 rfl ?_
      refine kv_bipush dX5_named_67 44 kb_44 ?_
      refine kv_iconst dX5_named_69 0 ki_0 ?_
      refine kw_VQ [_, _] mX5_expect dX5_named_70 lX5_80 wX5_expect kC5 hv3 rfl (by first | rfl | assumption) rfl rfl rfl (qX5_expect cx x3 (c := 44) (op := 0) (by decide) (by omega)) (by omega) (fun _ v4 q4 => ?_)
      obtain ⟨rfl, x4⟩ := q4
      have e4 := x4.e
      have hv4 := e4.wd hu
      refine kv_aload_n dX5_named_73 rfl ?_
      refine kv_iconst dX5_named_74 0 ki_0 ?_
      refine kv_iload_n dX5_named_75 rfl ?_
      refine kv_iconst dX5_named_76 1 ki_1 ?_
      refine kv_iadd dX5_named_77 ?_
      rw [show (nI op + 1 : Int32) = nI (op + 1) from kn_add rfl (show (1 : Int32) = nI 1 from rfl)]
      refine kw_VQ [_, _] mX5_level dX5_named_78 lX5_38 wX5_level kC5 hv4 rfl (by first | rfl | assumption) rfl rfl rfl (qX5_deep cx hL hop hD x4 (kpBd_e (kpBd_e y2))) (by omega) (fun _ v5 q5 => ?_)
      obtain ⟨rfl, x5⟩ := q5
      have e5 := x5.e
      have hv5 := e5.wd hu
      refine kv_aload_n dX5_named_81 rfl ?_
      refine kv_bipush dX5_named_82 41 kb_41 ?_
      refine kv_iconst dX5_named_84 0 ki_0 ?_
      refine kw_VQ [_, _] mX5_expect dX5_named_85 lX5_80 wX5_expect kC5 hv5 rfl (by first | rfl | assumption) rfl rfl rfl (qX5_expect cx x5 (c := 41) (op := 0) (by decide) (by omega)) (by omega) (fun _ v6 q6 => ?_)
      obtain ⟨rfl, x6⟩ := q6
      have e6 := x6.e
      have hv6 := e6.wd hu
      refine kv_aload_n dX5_named_88 rfl ?_
      refine kw_gRh dX5_named_89 fX5_25 hv6 (by first | rfl | assumption) rfl rfl (by rw [(e6).2.1]; exact cx.f2) ?_
      refine kv_sipush dX5_named_92 (-1000) kz_m1000 ?_
      refine kv_iload_n dX5_named_95 rfl ?_
      refine kv_isub dX5_named_96 ?_
      rw [show (((-1000) : Int32) - 103) = (-1103) from rfl]
      refine kw_VQ [_] mX9_push dX5_named_97 lX5_68 wX9_push kC9 hv6 rfl (by first | rfl | assumption) rfl rfl rfl (qX5_push cx x6 (c := 20009) (by decide) (fun s5 q => kpMM_sl (fun o s t => kpPr_gd cx.hB D 0 o s t) hlt hsl q)) (by omega) (fun _ v7 q7 => ?_)
      obtain ⟨rfl, x7⟩ := q7
      have e7 := x7.e
      have hv7 := e7.wd hu
      exact kv_vret dX5_named_100 rfl (by rw [hS]; exact ⟨rfl, x7⟩)
    · exact absurd h5 (by decide)

set_option maxRecDepth 20000 in
set_option maxHeartbeats 4000000 in
theorem qX5_signed {w : KW} {l : Launch} {u : KMem} {t : Nat} {B : Nat → Int32} {n use : Nat} (cx : kpCx u t B n use) {D : Nat} (hL : ∀ (lev op : Nat) (r : KPt) (v : KMem), lev ≤ 5 → op ≤ 5 → 36 ≤ D + lev + 6 * op → kpXr u t B n r v → KC w l mX5_level (3 * D + 4) 0 0 [.ref 388, .int (nI (lev)), .int (nI (op))] v (fun q z => q = none ∧ kpXr u t B n (kpBd r (kpPr B n use D (lev) (op))) z)) (hO : ∀ (op : Nat) (s : KPs) (v : KMem), op ≤ 5 → 36 ≤ D + 5 + 6 * op → kpXs u t B n s v → KC w l mX5_one (3 * D + 3) 0 0 [.ref 388, .int (nI op)] v (fun q z => q = none ∧ kpXr u t B n (kpPr B n use D 5 op s) z)) {op : Nat} (hop : op ≤ 5) (hD : 36 ≤ D + 1 + 5 + 6 * op) {v : KMem} {s : KPs} (hX : kpXs u t B n s v) (hlt : s.1 < n) : KC w l mX5_signed (3 * D + 5) 0 0 [.ref 388, .int (nI op)] v (fun r z => r = none ∧ kpXr u t B n (kpSd B n (kpPr B n use D) op s) z) := by
  have hu := cx.wd
  have ht := cx.ht
  have hn := cx.hn
  obtain ⟨E, g6, g4, g5, g3, gc, gs, hp, hsl⟩ := id hX
  have hv := E.wd hu
  have hte := kpTe_le (B := B) hp
  obtain ⟨k1, k2, k3, k4⟩ := ks_treaty t ht
  refine KC.of (ls := [_, _, _]) rfl rfl (Nat.le_of_ble_eq_true rfl) ?_
  refine kv_iload_n dX5_signed_0 rfl ?_
  refine kv_iconst dX5_signed_1 5 ki_5 ?_
  refine kv_icmp_lt dX5_signed_2 10 (by decide) (fun h1 => ?_) (fun h1 => ?_)
  · have h5 : op < 5 := (nI_ltI (b := 5) (by omega) (by omega)).mp h1
    have hS : kpSd B n (kpPr B n use D) op s = _ := if_pos h5
    refine kv_aload_n dX5_signed_10 rfl ?_
    refine kw_gI dX5_signed_11 fX5_42 hv (by first | rfl | assumption) rfl rfl ?_
    rw [g3]
    refine kv_bipush dX5_signed_14 33 kb_33 ?_
    refine kv_icmp_ne dX5_signed_16 24 (by decide) (fun h2 => ?_) (fun h2 => ?_)
    · rw [if_neg h2] at hS
      refine kv_bipush dX5_signed_24 110 kb_110 ?_
      refine kv_istore_n (ls2 := [_, _, _]) dX5_signed_26 rfl rfl rfl rfl ?_
      refine kv_aload_n dX5_signed_27 rfl ?_
      refine kw_VQ [] mX5_step dX5_signed_28 lX5_35 wX5_step kC5 hv rfl (by first | rfl | assumption) rfl rfl rfl (qX5_step (cx.of E) (kpTe B n s.1) hte.2 g5) (by omega) (fun _ v1 q1 => ?_)
      obtain ⟨rfl, es, z4, z5, z3⟩ := q1
      have x1 : kpXr u t B n (.ok (kpNx B n s.1, s.2)) v1 := kpXs.next ht hlt hX.c (by omega) es z4 z5 z3
      have e1 := x1.e
      have hv1 := e1.wd hu
      refine kv_aload_n dX5_signed_31 rfl ?_
      refine kv_iload_n dX5_signed_32 rfl ?_
      refine kv_iconst dX5_signed_33 1 ki_1 ?_
      refine kv_iadd dX5_signed_34 ?_
      rw [show (nI op + 1 : Int32) = nI (op + 1) from kn_add rfl (show (1 : Int32) = nI 1 from rfl)]
      refine kw_VQ [_] mX5_one dX5_signed_35 lX5_58 wX5_one kC5 hv1 rfl (by first | rfl | assumption) rfl rfl rfl (hO (op + 1) (kpNx B n s.1, s.2) _ (by omega) (by omega) x1) (by omega) (fun _ v2 q2 => ?_)
      obtain ⟨rfl, x2⟩ := q2
      have e2 := x2.e
      have hv2 := e2.wd hu
      refine kv_aload_n dX5_signed_38 rfl ?_
      refine kw_gRh dX5_signed_39 fX5_25 hv2 (by first | rfl | assumption) rfl rfl (by rw [(e2).2.1]; exact cx.f2) ?_
      refine kv_sipush dX5_signed_42 (-1000) kz_m1000 ?_
      refine kv_iload_n dX5_signed_45 rfl ?_
      refine kv_isub dX5_signed_46 ?_
      rw [show (((-1000) : Int32) - 110) = (-1110) from rfl]
      refine kw_VQ [_] mX9_push dX5_signed_47 lX5_68 wX9_push kC9 hv2 rfl (by first | rfl | assumption) rfl rfl rfl (qX5_push cx x2 (c := 20012) (by decide) (fun s5 q => kpSl cx.hB hlt hsl q)) (by omega) (fun _ v7 q7 => ?_)
      obtain ⟨rfl, x7⟩ := q7
      have e7 := x7.e
      have hv7 := e7.wd hu
      exact kv_vret dX5_signed_50 rfl (by rw [hS]; exact ⟨rfl, x7⟩)
    · rw [if_pos h2] at hS
      refine kv_bipush dX5_signed_19 33 kb_33 ?_
      refine kv_goto dX5_signed_21 26 (by decide) ?_
      refine kv_istore_n (ls2 := [_, _, _]) dX5_signed_26 rfl rfl rfl rfl ?_
      refine kv_aload_n dX5_signed_27 rfl ?_
      refine kw_VQ [] mX5_step dX5_signed_28 lX5_35 wX5_step kC5 hv rfl (by first | rfl | assumption) rfl rfl rfl (qX5_step (cx.of E) (kpTe B n s.1) hte.2 g5) (by omega) (fun _ v1 q1 => ?_)
      obtain ⟨rfl, es, z4, z5, z3⟩ := q1
      have x1 : kpXr u t B n (.ok (kpNx B n s.1, s.2)) v1 := kpXs.next ht hlt hX.c (by omega) es z4 z5 z3
      have e1 := x1.e
      have hv1 := e1.wd hu
      refine kv_aload_n dX5_signed_31 rfl ?_
      refine kv_iload_n dX5_signed_32 rfl ?_
      refine kv_iconst dX5_signed_33 1 ki_1 ?_
      refine kv_iadd dX5_signed_34 ?_
      rw [show (nI op + 1 : Int32) = nI (op + 1) from kn_add rfl (show (1 : Int32) = nI 1 from rfl)]
      refine kw_VQ [_] mX5_one dX5_signed_35 lX5_58 wX5_one kC5 hv1 rfl (by first | rfl | assumption) rfl rfl rfl (hO (op + 1) (kpNx B n s.1, s.2) _ (by omega) (by omega) x1) (by omega) (fun _ v2 q2 => ?_)
      obtain ⟨rfl, x2⟩ := q2
      have e2 := x2.e
      have hv2 := e2.wd hu
      refine kv_aload_n dX5_signed_38 rfl ?_
      refine kw_gRh dX5_signed_39 fX5_25 hv2 (by first | rfl | assumption) rfl rfl (by rw [(e2).2.1]; exact cx.f2) ?_
      refine kv_sipush dX5_signed_42 (-1000) kz_m1000 ?_
      refine kv_iload_n dX5_signed_45 rfl ?_
      refine kv_isub dX5_signed_46 ?_
      rw [show (((-1000) : Int32) - 33) = (-1033) from rfl]
      refine kw_VQ [_] mX9_push dX5_signed_47 lX5_68 wX9_push kC9 hv2 rfl (by first | rfl | assumption) rfl rfl rfl (qX5_push cx x2 (c := 20011) (by decide) (fun s5 q => kpSl cx.hB hlt hsl q)) (by omega) (fun _ v7 q7 => ?_)
      obtain ⟨rfl, x7⟩ := q7
      have e7 := x7.e
      have hv7 := e7.wd hu
      exact kv_vret dX5_signed_50 rfl (by rw [hS]; exact ⟨rfl, x7⟩)
  · have hS : kpSd B n (kpPr B n use D) op s = .error s.1 := if_neg (fun q => h1 (nI_lt (b := 5) q (by omega)))
    refine kv_aload_n dX5_signed_5 rfl ?_
    refine kw_VQ [] mX5_fail dX5_signed_6 lX5_45 wX5_fail kC5 hv rfl (by first | rfl | assumption) rfl rfl rfl (qX5_fail_ok cx hX) (by omega) (fun _ v9 q9 => ?_)
    obtain ⟨rfl, xe⟩ := q9
    have hvs := xe.1.wd hu
    exact kv_vret dX5_signed_9 rfl (by rw [hS]; exact ⟨rfl, xe⟩)

set_option maxRecDepth 20000 in
set_option maxHeartbeats 4000000 in
theorem qX5_one_s {w : KW} {l : Launch} {u : KMem} {t : Nat} {B : Nat → Int32} {n use : Nat} (cx : kpCx u t B n use) {D : Nat} (hL : ∀ (lev op : Nat) (r : KPt) (v : KMem), lev ≤ 5 → op ≤ 5 → 36 ≤ D + lev + 6 * op → kpXr u t B n r v → KC w l mX5_level (3 * D + 4) 0 0 [.ref 388, .int (nI (lev)), .int (nI (op))] v (fun q z => q = none ∧ kpXr u t B n (kpBd r (kpPr B n use D (lev) (op))) z)) (hO : ∀ (op : Nat) (s : KPs) (v : KMem), op ≤ 5 → 36 ≤ D + 5 + 6 * op → kpXs u t B n s v → KC w l mX5_one (3 * D + 3) 0 0 [.ref 388, .int (nI op)] v (fun q z => q = none ∧ kpXr u t B n (kpPr B n use D 5 op s) z)) {op : Nat} (hop : op ≤ 5) (hD : 36 ≤ D + 1 + 5 + 6 * op) {v : KMem} {s : KPs} (hX : kpXs u t B n s v) : KC w l mX5_one (3 * (D + 1) + 3) 0 0 [.ref 388, .int (nI op)] v (fun r z => r = none ∧ kpXr u t B n (kpPr B n use (D + 1) 5 op s) z) := by
  have hu := cx.wd
  have ht := cx.ht
  have hn := cx.hn
  obtain ⟨E, g6, g4, g5, g3, gc, gs, hp, hsl⟩ := id hX
  have hv := E.wd hu
  have hte := kpTe_le (B := B) hp
  obtain ⟨k1, k2, k3, k4⟩ := ks_treaty t ht
  refine KC.of (ls := [_, _]) rfl rfl (Nat.le_of_ble_eq_true rfl) ?_
  refine kv_aload_n dX5_one_0 rfl ?_
  refine kw_gI dX5_one_1 fX5_42 hv (by first | rfl | assumption) rfl rfl ?_
  rw [g3]
  refine kv_bipush dX5_one_4 (-2) kb_m2 ?_
  refine kv_icmp_ne dX5_one_6 16 (by decide) (fun h1 => ?_) (fun h1 => ?_)
  · have w1 : ¬ kpWo B n s.1 = -2 := h1
    refine kv_aload_n dX5_one_16 rfl ?_
    refine kw_gI dX5_one_17 fX5_42 hv (by first | rfl | assumption) rfl rfl ?_
    rw [g3]
    refine kv_bipush dX5_one_20 (-3) kb_m3 ?_
    refine kv_icmp_ne dX5_one_22 33 (by decide) (fun h2 => ?_) (fun h2 => ?_)
    · have w2 : ¬ kpWo B n s.1 = -3 := h2
      refine kv_aload_n dX5_one_33 rfl ?_
      refine kw_gI dX5_one_34 fX5_42 hv (by first | rfl | assumption) rfl rfl ?_
      rw [g3]
      refine kv_bipush dX5_one_37 33 kb_33 ?_
      refine kv_icmp_eq dX5_one_39 51 (by decide) (fun h3 => ?_) (fun h3 => ?_)
      · have hlt : s.1 < n := kpWo_lt (by rw [h3]; decide)
        have hS : kpPr B n use (D + 1) 5 op s = kpSd B n (kpPr B n use D) op s := (if_neg w1).trans ((if_neg w2).trans (if_pos (Or.inl h3)))
        refine kv_aload_n dX5_one_51 rfl ?_
        refine kv_iload_n dX5_one_52 rfl ?_
        refine kw_VQ [_] mX5_signed dX5_one_53 lX5_77 wX5_signed kC5 hv rfl (by first | rfl | assumption) rfl rfl rfl (qX5_signed cx hL hO hop hD hX hlt) (by omega) (fun _ v1 q1 => ?_)
        obtain ⟨rfl, x1⟩ := q1
        have e1 := x1.e
        have hv1 := e1.wd hu
        refine kv_goto dX5_one_56 81 (by decide) ?_
        exact kv_vret dX5_one_81 rfl (by rw [hS]; exact ⟨rfl, x1⟩)
      · have w3 : ¬ kpWo B n s.1 = 33 := h3
        refine kv_aload_n dX5_one_42 rfl ?_
        refine kw_gI dX5_one_43 fX5_42 hv (by first | rfl | assumption) rfl rfl ?_
        rw [g3]
        refine kv_bipush dX5_one_46 45 kb_45 ?_
        refine kv_icmp_ne dX5_one_48 59 (by decide) (fun h4 => ?_) (fun h4 => ?_)
        · have hS : kpPr B n use (D + 1) 5 op s = kpBd (kpBd (kpEx B n 40 op s) (kpPr B n use D 0 (op + 1))) (kpEx B n 41 0) := (if_neg w1).trans ((if_neg w2).trans (if_neg (fun q => q.elim w3 h4)))
          refine kv_aload_n dX5_one_59 rfl ?_
          refine kv_bipush dX5_one_60 40 kb_40 ?_
          refine kv_iload_n dX5_one_62 rfl ?_
          refine kw_VQ [_, _] mX5_expect dX5_one_63 lX5_80 wX5_expect kC5 hv rfl (by first | rfl | assumption) rfl rfl rfl (qX5_expect_ok cx hX (c := 40) (by decide) hop) (by omega) (fun _ v2 q2 => ?_)
          obtain ⟨rfl, x2⟩ := q2
          have e2 := x2.e
          have hv2 := e2.wd hu
          have y2 := kpEx_5 (B := B) (n := n) (op := op) (c := 40) s
          refine kv_aload_n dX5_one_66 rfl ?_
          refine kv_iconst dX5_one_67 0 ki_0 ?_
          refine kv_iload_n dX5_one_68 rfl ?_
          refine kv_iconst dX5_one_69 1 ki_1 ?_
          refine kv_iadd dX5_one_70 ?_
          rw [show (nI op + 1 : Int32) = nI (op + 1) from kn_add rfl (show (1 : Int32) = nI 1 from rfl)]
          refine kw_VQ [_, _] mX5_level dX5_one_71 lX5_38 wX5_level kC5 hv2 rfl (by first | rfl | assumption) rfl rfl rfl (qX5_deep cx hL hop hD x2 y2) (by omega) (fun _ v3 q3 => ?_)
          obtain ⟨rfl, x3⟩ := q3
          have e3 := x3.e
          have hv3 := e3.wd hu
          refine kv_aload_n dX5_one_74 rfl ?_
          refine kv_bipush dX5_one_75 41 kb_41 ?_
          refine kv_iconst dX5_one_77 0 ki_0 ?_
          refine kw_VQ [_, _] mX5_expect dX5_one_78 lX5_80 wX5_expect kC5 hv3 rfl (by first | rfl | assumption) rfl rfl rfl (qX5_expect cx x3 (c := 41) (op := 0) (by decide) (by omega)) (by omega) (fun _ v1 q1 => ?_)
          obtain ⟨rfl, x1⟩ := q1
          have e1 := x1.e
          have hv1 := e1.wd hu
          exact kv_vret dX5_one_81 rfl (by rw [hS]; exact ⟨rfl, x1⟩)
        · have hlt : s.1 < n := kpWo_lt (by rw [h4]; decide)
          have hS : kpPr B n use (D + 1) 5 op s = kpSd B n (kpPr B n use D) op s := (if_neg w1).trans ((if_neg w2).trans (if_pos (Or.inr h4)))
          refine kv_aload_n dX5_one_51 rfl ?_
          refine kv_iload_n dX5_one_52 rfl ?_
          refine kw_VQ [_] mX5_signed dX5_one_53 lX5_77 wX5_signed kC5 hv rfl (by first | rfl | assumption) rfl rfl rfl (qX5_signed cx hL hO hop hD hX hlt) (by omega) (fun _ v1 q1 => ?_)
          obtain ⟨rfl, x1⟩ := q1
          have e1 := x1.e
          have hv1 := e1.wd hu
          refine kv_goto dX5_one_56 81 (by decide) ?_
          exact kv_vret dX5_one_81 rfl (by rw [hS]; exact ⟨rfl, x1⟩)
    · obtain ⟨hlt, hl, -⟩ := kpWo_lr cx.hB h2
      have hS : kpPr B n use (D + 1) 5 op s = kpNd B n use (kpPr B n use D) op s := (if_neg w1).trans (if_pos h2)
      refine kv_aload_n dX5_one_25 rfl ?_
      refine kv_iload_n dX5_one_26 rfl ?_
      refine kw_VQ [_] mX5_named dX5_one_27 lX5_74 wX5_named kC5 hv rfl (by first | rfl | assumption) rfl rfl rfl (qX5_named cx hL hO hop hD hX hlt hl) (by omega) (fun _ v1 q1 => ?_)
      obtain ⟨rfl, x1⟩ := q1
      have e1 := x1.e
      have hv1 := e1.wd hu
      refine kv_goto dX5_one_30 81 (by decide) ?_
      exact kv_vret dX5_one_81 rfl (by rw [hS]; exact ⟨rfl, x1⟩)
  · obtain ⟨hlt, hd⟩ := kpWo_dg cx.hB h1
    have hS : kpPr B n use (D + 1) 5 op s = kpNu B n s := if_pos h1
    refine kv_aload_n dX5_one_9 rfl ?_
    refine kw_VQ [] mX5_number dX5_one_10 lX5_71 wX5_number kC5 hv rfl (by first | rfl | assumption) rfl rfl rfl (qX5_number cx hX hlt hd) (by omega) (fun _ v1 q1 => ?_)
    obtain ⟨rfl, x1⟩ := q1
    have e1 := x1.e
    have hv1 := e1.wd hu
    refine kv_goto dX5_one_13 81 (by decide) ?_
    exact kv_vret dX5_one_81 rfl (by rw [hS]; exact ⟨rfl, x1⟩)

set_option maxRecDepth 20000 in
set_option maxHeartbeats 4000000 in
theorem qX5_level_s {w : KW} {l : Launch} {u : KMem} {t : Nat} {B : Nat → Int32} {n use : Nat} (cx : kpCx u t B n use) {D : Nat} (hL : ∀ (lev op : Nat) (r : KPt) (v : KMem), lev ≤ 5 → op ≤ 5 → 36 ≤ D + lev + 6 * op → kpXr u t B n r v → KC w l mX5_level (3 * D + 4) 0 0 [.ref 388, .int (nI (lev)), .int (nI (op))] v (fun q z => q = none ∧ kpXr u t B n (kpBd r (kpPr B n use D (lev) (op))) z)) (hO : ∀ (op : Nat) (s : KPs) (v : KMem), op ≤ 5 → 36 ≤ D + 5 + 6 * op → kpXs u t B n s v → KC w l mX5_one (3 * D + 3) 0 0 [.ref 388, .int (nI op)] v (fun q z => q = none ∧ kpXr u t B n (kpPr B n use D 5 op s) z)) {lev op : Nat} (hl : lev ≤ 5) (hop : op ≤ 5) (hD : 36 ≤ D + 1 + lev + 6 * op) {v : KMem} {s0 : KPs} (hX0 : kpXs u t B n s0 v) : KC w l mX5_level (3 * (D + 1) + 4) 0 0 [.ref 388, .int (nI lev), .int (nI op)] v (fun r z => r = none ∧ kpXr u t B n (kpPr B n use (D + 1) lev op s0) z) := by
  have hu := cx.wd
  have ht := cx.ht
  have hn := cx.hn
  obtain ⟨E0, g6, -, -, -, -, -, -, -⟩ := id hX0
  have hv := E0.wd hu
  obtain ⟨k1, k2, k3, k4⟩ := ks_treaty t ht
  refine KC.of (ls := [_, _, _, _, _, _]) rfl rfl (Nat.le_of_ble_eq_true rfl) ?_
  refine kv_aload_n dX5_level_0 rfl ?_
  refine kw_gI dX5_level_1 fX5_32 hv (by first | rfl | assumption) rfl rfl ?_
  rw [g6]
  refine kv_if_lt dX5_level_4 8 (by decide) (fun h1 => ?_) (fun h1 => ?_)
  · refine kv_iload_n dX5_level_8 rfl ?_
    refine kv_iconst dX5_level_9 5 ki_5 ?_
    refine kv_icmp_lt dX5_level_10 19 (by decide) (fun h2 => ?_) (fun h2 => ?_)
    · have hlev : lev < 5 := (nI_ltI (b := 5) (by omega) (by omega)).mp h2
      have hSS : kpPr B n use (D + 1) lev op s0 = kpBd (kpPr B n use D (lev + 1) op s0) (kpLp B n (kpPr B n use D (lev + 1) op) lev (if lev = 2 then 1 else 60)) := if_pos hlev
      refine kv_aload_n dX5_level_19 rfl ?_
      refine kv_iload_n dX5_level_20 rfl ?_
      refine kv_iconst dX5_level_21 1 ki_1 ?_
      refine kv_iadd dX5_level_22 ?_
      refine kv_iload_n dX5_level_23 rfl ?_
      rw [show (nI lev + 1 : Int32) = nI (lev + 1) from kn_add rfl (show (1 : Int32) = nI 1 from rfl)]
      refine kw_VQ [_, _] mX5_level dX5_level_24 lX5_38 wX5_level kC5 hv rfl (by first | rfl | assumption) rfl rfl rfl (hL (lev + 1) op (.ok s0) v (by omega) hop (by omega) hX0) (by omega) (fun _ v1 q1 => ?_)
      obtain ⟨rfl, x1⟩ := q1
      have e1 := x1.e
      have hv1 := e1.wd hu
      refine kv_iload_n dX5_level_27 rfl ?_
      refine kv_iconst dX5_level_28 2 ki_2 ?_
      refine kv_icmp_ne dX5_level_29 36 (by decide) (fun h3 => ?_) (fun h3 => ?_)
      · rw [if_neg (fun q => h3 (by rw [q]; rfl))] at hSS
        have hS := hSS.symm
        refine kv_bipush dX5_level_36 60 kb_60 ?_
        refine kv_istore_n (ls2 := [_, _, _, _, _, _]) dX5_level_38 rfl rfl rfl rfl ?_
        refine kv_iconst dX5_level_39 0 ki_0 ?_
        refine kv_istore (ls2 := [_, _, _, _, _, _]) dX5_level_40 rfl rfl rfl rfl ?_
        refine KV.loc (ls2 := [some (.ref 388), some (.int (nI lev)), some (.int (nI op)), some (.int 60), some (.int (nI (0))), none]) ?_ (ksS rfl (ksS rfl (ksS rfl (ksS rfl (ksS rfl (ks0 ksN))))))
        refine kn_loop (P := fun i => ∀ (rk : KPt) (z : KMem), kpXr u t B n rk z → kpBd rk (kpLp B n (kpPr B n use D (lev + 1) op) lev (60 - i)) = kpPr B n use (D + 1) lev op s0 → KV w l mX5_level (3 * (D + 1) + 4) 0 0 42 [some (.ref 388), some (.int (nI lev)), some (.int (nI op)), some (.int 60), some (.int (nI i)), none] [] z (fun r z => r = none ∧ kpXr u t B n (kpPr B n use (D + 1) lev op s0) z)) (60) ?_ (fun i hi ih => ?_) _ _ x1 hS
        · intro rk z hz hRk
          have ez := hz.e
          have hvz := ez.wd hu
          have hfin : rk = kpPr B n use (D + 1) lev op s0 := by rw [← hRk, Nat.sub_self]; cases rk <;> rfl
          refine kv_iload dX5_level_42 rfl ?_
          refine kv_iload_n dX5_level_44 rfl ?_
          refine kv_icmp_ge dX5_level_45 103 (by decide) (fun h4 => ?_) (fun h4 => ?_)
          · exact kv_vret dX5_level_103 rfl (by rw [← hfin]; exact ⟨rfl, hz⟩)
          · exact absurd (show (60 : Int32) ≤ nI 60 from Int32.le_refl _) h4
        · have ihk := ih
          intro rk z hz hRk
          have ez := hz.e
          have hvz := ez.wd hu
          obtain ⟨m, em⟩ : ∃ m, 60 - i = m + 1 := ⟨60 - i - 1, by omega⟩
          have em2 : 60 - (i + 1) = m := by omega
          rw [em] at hRk
          refine kv_iload dX5_level_42 rfl ?_
          refine kv_iload_n dX5_level_44 rfl ?_
          refine kv_icmp_ge dX5_level_45 103 (by decide) (fun h5 => ?_) (fun h5 => ?_)
          · exact absurd ((nI_leI (a := 60) (by omega) (by omega)).mp h5) (by omega)
          · rcases rk with f | s
            · obtain ⟨E, g6, hf, c0, hc0, gc⟩ := id hz
              have hfin : (Except.error f : KPt) = kpPr B n use (D + 1) lev op s0 := hRk
              refine kv_aload_n dX5_level_48 rfl ?_
              refine kw_gI dX5_level_49 fX5_32 hvz (by first | rfl | assumption) rfl rfl ?_
              rw [g6]
              refine kv_if_ge dX5_level_52 103 (by decide) (fun h6 => ?_) (fun h6 => ?_)
              · exact kv_vret dX5_level_103 rfl (by rw [← hfin]; exact ⟨rfl, hz⟩)
              · exact absurd (nI_le (a := 0) (by omega) (by omega)) h6
            · obtain ⟨E, g6, g4, g5, g3, gc, gs, hp, hsl⟩ := id hz
              have hte := kpTe_le (B := B) hp
              have hX : kpXs u t B n s z := hz
              refine kv_aload_n dX5_level_48 rfl ?_
              refine kw_gI dX5_level_49 fX5_32 hvz (by first | rfl | assumption) rfl rfl ?_
              rw [g6]
              refine kv_if_ge dX5_level_52 103 (by decide) (fun h7 => ?_) (fun h7 => ?_)
              · exact absurd h7 (by decide)
              · refine kv_aload_n dX5_level_55 rfl ?_
                refine kw_gI dX5_level_56 fX5_42 hvz (by first | rfl | assumption) rfl rfl ?_
                rw [g3]
                refine kw_Si [_] mX5_levelOf dX5_level_59 lX5_62 wX5_levelOf rfl rfl rfl (qX5_levelOf (by exact hvz) _) (by omega) ?_
                refine kv_iload_n dX5_level_62 rfl ?_
                refine kv_icmp_ne dX5_level_63 103 (by decide) (fun h8 => ?_) (fun h8 => ?_)
                · have hfin : (Except.ok s : KPt) = kpPr B n use (D + 1) lev op s0 := by
                    rw [← hRk]
                    symm
                    exact if_neg h8
                  exact kv_vret dX5_level_103 rfl (by rw [← hfin]; exact ⟨rfl, hz⟩)
                · have hlv := h8
                  have hlt := kpLvl_ne hlev hlv
                  obtain ⟨-, -, -, hsg⟩ := kpLv_ne hlev hlv
                  refine kv_aload_n dX5_level_66 rfl ?_
                  refine kw_gI dX5_level_67 fX5_42 hvz (by first | rfl | assumption) rfl rfl ?_
                  rw [g3]
                  refine kv_istore (ls2 := [_, _, _, _, _, _]) dX5_level_70 rfl rfl rfl rfl ?_
                  refine kv_aload_n dX5_level_72 rfl ?_
                  refine kw_VQ [] mX5_step dX5_level_73 lX5_35 wX5_step kC5 hvz rfl (by first | rfl | assumption) rfl rfl rfl (qX5_step (cx.of E) (kpTe B n s.1) hte.2 g5) (by omega) (fun _ v2 q2 => ?_)
                  obtain ⟨rfl, es, z4, z5, z3⟩ := q2
                  have x2 : kpXr u t B n (.ok (kpNx B n s.1, s.2)) v2 := kpXs.next ht hlt hX.c (by omega) es z4 z5 z3
                  have e2 := x2.e
                  have hv2 := e2.wd hu
                  refine kv_aload_n dX5_level_76 rfl ?_
                  refine kv_iload_n dX5_level_77 rfl ?_
                  refine kv_iconst dX5_level_78 1 ki_1 ?_
                  refine kv_iadd dX5_level_79 ?_
                  refine kv_iload_n dX5_level_80 rfl ?_
                  rw [show (nI lev + 1 : Int32) = nI (lev + 1) from kn_add rfl (show (1 : Int32) = nI 1 from rfl)]
                  refine kw_VQ [_, _] mX5_level dX5_level_81 lX5_38 wX5_level kC5 hv2 rfl (by first | rfl | assumption) rfl rfl rfl (hL (lev + 1) op (.ok (kpNx B n s.1, s.2)) _ (by omega) hop (by omega) x2) (by omega) (fun _ v3 q3 => ?_)
                  obtain ⟨rfl, x3⟩ := q3
                  have e3 := x3.e
                  have hv3 := e3.wd hu
                  refine kv_aload_n dX5_level_84 rfl ?_
                  refine kw_gRh dX5_level_85 fX5_25 hv3 (by first | rfl | assumption) rfl rfl (by rw [(e3).2.1]; exact cx.f2) ?_
                  refine kv_sipush dX5_level_88 (-1000) kz_m1000 ?_
                  refine kv_iload dX5_level_91 rfl ?_
                  refine kv_isub dX5_level_93 ?_
                  refine kw_VQ [_] mX9_push dX5_level_94 lX5_68 wX9_push kC9 hv3 rfl (by first | rfl | assumption) rfl rfl rfl (qX5_push cx x3 hsg (fun s5 q => kpSl cx.hB hlt hsl q)) (by omega) (fun _ v5 q5 => ?_)
                  obtain ⟨rfl, x5⟩ := q5
                  have e5 := x5.e
                  have hv5 := e5.wd hu
                  refine kv_iinc (ls2 := [_, _, _, _, _, _]) dX5_level_97 (nI (i + 1)) rfl (kv_inc1 i) rfl rfl rfl rfl ?_
                  refine kv_goto dX5_level_100 42 (by decide) ?_
                  refine KV.loc (ihk _ _ x5 ?_) (ksS rfl (ksS rfl (ksS rfl (ksS rfl (ksS rfl (ks0 ksN))))))
                  rw [em2, ← hRk]
                  symm
                  exact if_pos hlv
      · rw [if_pos ((nI_eq (b := 2) (by omega) (by omega)).mp h3)] at hSS
        have hS := hSS.symm
        refine kv_iconst dX5_level_32 1 ki_1 ?_
        refine kv_goto dX5_level_33 38 (by decide) ?_
        refine kv_istore_n (ls2 := [_, _, _, _, _, _]) dX5_level_38 rfl rfl rfl rfl ?_
        refine kv_iconst dX5_level_39 0 ki_0 ?_
        refine kv_istore (ls2 := [_, _, _, _, _, _]) dX5_level_40 rfl rfl rfl rfl ?_
        refine KV.loc (ls2 := [some (.ref 388), some (.int (nI lev)), some (.int (nI op)), some (.int 1), some (.int (nI (0))), none]) ?_ (ksS rfl (ksS rfl (ksS rfl (ksS rfl (ksS rfl (ks0 ksN))))))
        refine kn_loop (P := fun i => ∀ (rk : KPt) (z : KMem), kpXr u t B n rk z → kpBd rk (kpLp B n (kpPr B n use D (lev + 1) op) lev (1 - i)) = kpPr B n use (D + 1) lev op s0 → KV w l mX5_level (3 * (D + 1) + 4) 0 0 42 [some (.ref 388), some (.int (nI lev)), some (.int (nI op)), some (.int 1), some (.int (nI i)), none] [] z (fun r z => r = none ∧ kpXr u t B n (kpPr B n use (D + 1) lev op s0) z)) (1) ?_ (fun i hi ih => ?_) _ _ x1 hS
        · intro rk z hz hRk
          have ez := hz.e
          have hvz := ez.wd hu
          have hfin : rk = kpPr B n use (D + 1) lev op s0 := by rw [← hRk, Nat.sub_self]; cases rk <;> rfl
          refine kv_iload dX5_level_42 rfl ?_
          refine kv_iload_n dX5_level_44 rfl ?_
          refine kv_icmp_ge dX5_level_45 103 (by decide) (fun h9 => ?_) (fun h9 => ?_)
          · exact kv_vret dX5_level_103 rfl (by rw [← hfin]; exact ⟨rfl, hz⟩)
          · exact absurd (show (1 : Int32) ≤ nI 1 from Int32.le_refl _) h9
        · have ihk := ih
          intro rk z hz hRk
          have ez := hz.e
          have hvz := ez.wd hu
          obtain ⟨m, em⟩ : ∃ m, 1 - i = m + 1 := ⟨1 - i - 1, by omega⟩
          have em2 : 1 - (i + 1) = m := by omega
          rw [em] at hRk
          refine kv_iload dX5_level_42 rfl ?_
          refine kv_iload_n dX5_level_44 rfl ?_
          refine kv_icmp_ge dX5_level_45 103 (by decide) (fun h10 => ?_) (fun h10 => ?_)
          · exact absurd ((nI_leI (a := 1) (by omega) (by omega)).mp h10) (by omega)
          · rcases rk with f | s
            · obtain ⟨E, g6, hf, c0, hc0, gc⟩ := id hz
              have hfin : (Except.error f : KPt) = kpPr B n use (D + 1) lev op s0 := hRk
              refine kv_aload_n dX5_level_48 rfl ?_
              refine kw_gI dX5_level_49 fX5_32 hvz (by first | rfl | assumption) rfl rfl ?_
              rw [g6]
              refine kv_if_ge dX5_level_52 103 (by decide) (fun h11 => ?_) (fun h11 => ?_)
              · exact kv_vret dX5_level_103 rfl (by rw [← hfin]; exact ⟨rfl, hz⟩)
              · exact absurd (nI_le (a := 0) (by omega) (by omega)) h11
            · obtain ⟨E, g6, g4, g5, g3, gc, gs, hp, hsl⟩ := id hz
              have hte := kpTe_le (B := B) hp
              have hX : kpXs u t B n s z := hz
              refine kv_aload_n dX5_level_48 rfl ?_
              refine kw_gI dX5_level_49 fX5_32 hvz (by first | rfl | assumption) rfl rfl ?_
              rw [g6]
              refine kv_if_ge dX5_level_52 103 (by decide) (fun h12 => ?_) (fun h12 => ?_)
              · exact absurd h12 (by decide)
              · refine kv_aload_n dX5_level_55 rfl ?_
                refine kw_gI dX5_level_56 fX5_42 hvz (by first | rfl | assumption) rfl rfl ?_
                rw [g3]
                refine kw_Si [_] mX5_levelOf dX5_level_59 lX5_62 wX5_levelOf rfl rfl rfl (qX5_levelOf (by exact hvz) _) (by omega) ?_
                refine kv_iload_n dX5_level_62 rfl ?_
                refine kv_icmp_ne dX5_level_63 103 (by decide) (fun h13 => ?_) (fun h13 => ?_)
                · have hfin : (Except.ok s : KPt) = kpPr B n use (D + 1) lev op s0 := by
                    rw [← hRk]
                    symm
                    exact if_neg h13
                  exact kv_vret dX5_level_103 rfl (by rw [← hfin]; exact ⟨rfl, hz⟩)
                · have hlv := h13
                  have hlt := kpLvl_ne hlev hlv
                  obtain ⟨-, -, -, hsg⟩ := kpLv_ne hlev hlv
                  refine kv_aload_n dX5_level_66 rfl ?_
                  refine kw_gI dX5_level_67 fX5_42 hvz (by first | rfl | assumption) rfl rfl ?_
                  rw [g3]
                  refine kv_istore (ls2 := [_, _, _, _, _, _]) dX5_level_70 rfl rfl rfl rfl ?_
                  refine kv_aload_n dX5_level_72 rfl ?_
                  refine kw_VQ [] mX5_step dX5_level_73 lX5_35 wX5_step kC5 hvz rfl (by first | rfl | assumption) rfl rfl rfl (qX5_step (cx.of E) (kpTe B n s.1) hte.2 g5) (by omega) (fun _ v2 q2 => ?_)
                  obtain ⟨rfl, es, z4, z5, z3⟩ := q2
                  have x2 : kpXr u t B n (.ok (kpNx B n s.1, s.2)) v2 := kpXs.next ht hlt hX.c (by omega) es z4 z5 z3
                  have e2 := x2.e
                  have hv2 := e2.wd hu
                  refine kv_aload_n dX5_level_76 rfl ?_
                  refine kv_iload_n dX5_level_77 rfl ?_
                  refine kv_iconst dX5_level_78 1 ki_1 ?_
                  refine kv_iadd dX5_level_79 ?_
                  refine kv_iload_n dX5_level_80 rfl ?_
                  rw [show (nI lev + 1 : Int32) = nI (lev + 1) from kn_add rfl (show (1 : Int32) = nI 1 from rfl)]
                  refine kw_VQ [_, _] mX5_level dX5_level_81 lX5_38 wX5_level kC5 hv2 rfl (by first | rfl | assumption) rfl rfl rfl (hL (lev + 1) op (.ok (kpNx B n s.1, s.2)) _ (by omega) hop (by omega) x2) (by omega) (fun _ v3 q3 => ?_)
                  obtain ⟨rfl, x3⟩ := q3
                  have e3 := x3.e
                  have hv3 := e3.wd hu
                  refine kv_aload_n dX5_level_84 rfl ?_
                  refine kw_gRh dX5_level_85 fX5_25 hv3 (by first | rfl | assumption) rfl rfl (by rw [(e3).2.1]; exact cx.f2) ?_
                  refine kv_sipush dX5_level_88 (-1000) kz_m1000 ?_
                  refine kv_iload dX5_level_91 rfl ?_
                  refine kv_isub dX5_level_93 ?_
                  refine kw_VQ [_] mX9_push dX5_level_94 lX5_68 wX9_push kC9 hv3 rfl (by first | rfl | assumption) rfl rfl rfl (qX5_push cx x3 hsg (fun s5 q => kpSl cx.hB hlt hsl q)) (by omega) (fun _ v5 q5 => ?_)
                  obtain ⟨rfl, x5⟩ := q5
                  have e5 := x5.e
                  have hv5 := e5.wd hu
                  refine kv_iinc (ls2 := [_, _, _, _, _, _]) dX5_level_97 (nI (i + 1)) rfl (kv_inc1 i) rfl rfl rfl rfl ?_
                  refine kv_goto dX5_level_100 42 (by decide) ?_
                  refine KV.loc (ihk _ _ x5 ?_) (ksS rfl (ksS rfl (ksS rfl (ksS rfl (ksS rfl (ks0 ksN))))))
                  rw [em2, ← hRk]
                  symm
                  exact if_pos hlv
    · have hl5 : ¬ lev < 5 := fun q => h2 (nI_lt (b := 5) q (by omega))
      obtain rfl : lev = 5 := by omega
      refine kv_aload_n dX5_level_13 rfl ?_
      refine kv_iload_n dX5_level_14 rfl ?_
      refine kw_VQ [_] mX5_one dX5_level_15 lX5_58 wX5_one kC5 hv rfl (by first | rfl | assumption) rfl rfl rfl (qX5_one_s cx hL hO hop (by omega) hX0) (by omega) (fun _ v7 q7 => ?_)
      obtain ⟨rfl, x7⟩ := q7
      have e7 := x7.e
      have hv7 := e7.wd hu
      exact kv_vret dX5_level_18 rfl ⟨rfl, x7⟩
  · exact absurd (show (-1 : Int32) < 0 by decide) h1

theorem qX5_both {w : KW} {l : Launch} {u : KMem} {t : Nat} {B : Nat → Int32} {n use : Nat} (cx : kpCx u t B n use) : ∀ D : Nat, (∀ (lev op : Nat) (r : KPt) (v : KMem), lev ≤ 5 → op ≤ 5 → 36 ≤ D + lev + 6 * op → kpXr u t B n r v → KC w l mX5_level (3 * D + 4) 0 0 [.ref 388, .int (nI (lev)), .int (nI (op))] v (fun q z => q = none ∧ kpXr u t B n (kpBd r (kpPr B n use D (lev) (op))) z)) ∧ (∀ (op : Nat) (s : KPs) (v : KMem), op ≤ 5 → 36 ≤ D + 5 + 6 * op → kpXs u t B n s v → KC w l mX5_one (3 * D + 3) 0 0 [.ref 388, .int (nI op)] v (fun q z => q = none ∧ kpXr u t B n (kpPr B n use D 5 op s) z))
  | 0 => ⟨fun lev op r v h1 h2 h3 _ => absurd h3 (by omega), fun op s v h1 h2 _ => absurd h2 (by omega)⟩
  | D + 1 => by
    obtain ⟨hL, hO⟩ := qX5_both cx D
    refine ⟨fun lev op r v h1 h2 h3 hX => ?_, fun op s v h1 h2 hX => qX5_one_s cx hL hO h1 (by omega) hX⟩
    cases r with
    | ok s => exact qX5_level_s cx hL hO h1 h2 h3 hX
    | error f => exact qX5_level_er cx hX _ _ _
