/-! THE MODEL'S READER: levels -/
theorem kpLp_no {B : Nat → Int32} {n lev m : Nat} {f : KPs → KPt} {s : KPs} (h : ¬ kpLv (kpWo B n s.1) = nI lev) : kpLp B n f lev m s = .ok s := by
  cases m with
  | zero => rfl
  | succ m => exact if_neg h
theorem kpLp_z {B : Nat → Int32} {n lev : Nat} {f : KPs → KPt} (r : KPt) : kpBd r (kpLp B n f lev 0) = r := by cases r <;> rfl
theorem kpLp_y {B : Nat → Int32} {n lev m : Nat} {f : KPs → KPt} {s : KPs} (h : kpLv (kpWo B n s.1) = nI lev) : kpLp B n f lev (m + 1) s = kpBd (kpBd (f (kpNx B n s.1, s.2)) (kpPu (kpSg (kpWo B n s.1)))) (kpLp B n f lev m) := if_pos h
theorem kpLv_0 {x : Int32} (h : ¬ x = 124) : ¬ kpLv x = nI 0 := by
  unfold kpLv; rw [if_neg h]; repeat' split
  all_goals decide
theorem kpLv_1 {x : Int32} (h : ¬ x = 38) : ¬ kpLv x = nI 1 := by
  unfold kpLv; rw [if_neg h]; repeat' split
  all_goals decide
theorem kpLv_2 {x : Int32} (h : ¬ x = 60) (h2 : ¬ x = 61) (h3 : ¬ x = 62) : ¬ kpLv x = nI 2 := by
  unfold kpLv; rw [if_neg (fun q => q.elim h (fun q => q.elim h2 h3) : ¬ (x = 60 ∨ x = 61 ∨ x = 62))]; repeat' split
  all_goals decide
theorem kpLv_3 {x : Int32} (h : ¬ x = 43) (h2 : ¬ x = 45) : ¬ kpLv x = nI 3 := by
  unfold kpLv; rw [if_neg (fun q => q.elim h h2 : ¬ (x = 43 ∨ x = 45))]; repeat' split
  all_goals decide
theorem kpLv_4 {x : Int32} (h : ¬ x = 42) (h2 : ¬ x = 47) : ¬ kpLv x = nI 4 := by
  unfold kpLv; rw [if_neg (fun q => q.elim h h2 : ¬ (x = 42 ∨ x = 47))]; repeat' split
  all_goals decide
theorem kpGo {B : Nat → Int32} {n use D lev op : Nat} (hB : ∀ i, i < n → kUp (B i) 255) {c : Int32} {s t : KPs} (hp : s.1 < n) (hs : s.2.length ≤ s.1) (h : kpBd (kpPr B n use D lev op (kpNx B n s.1, s.2)) (kpPu c) = .ok t) : s.1 < t.1 ∧ t.2.length ≤ t.1 := by
  obtain ⟨s1, h1, h2⟩ := kpBd_ok h
  have := kpSl hB hp hs h1
  have hx := kpNx_lt (B := B) hp
  obtain ⟨b1, -, -, -⟩ := kpPr_gd hB D _ _ _ _ (show (kpNx B n s.1, s.2).1 ≤ n from hx.2) h1
  have b1' : kpNx B n s.1 ≤ s1.1 := b1
  unfold kpPu at h2
  injection h2 with h2
  subst h2
  refine ⟨by show s.1 < s1.1; omega, ?_⟩
  show (s1.2 ++ [c]).length ≤ s1.1
  rw [List.length_append, List.length_singleton]; omega
theorem kpMs.w0 {u v : KMem} {g : Nat → Int32} {op : Nat} {s : KPs} (h : kpMs u g op s v) : kpMs u g op s (kv_si v 413 10 0) := by
  obtain ⟨E, g10, g6, g7, g9, gc, gs, hp, hsl⟩ := h
  exact ⟨E.si (Or.inl ⟨rfl, by omega⟩), kv_si_s _ _ _ _, by rw [kv_si_n (by omega)]; exact g6, by rw [kv_si_n (by omega)]; exact g7, by rw [kv_si_n (by omega)]; exact g9, by rw [kv_si_n (by omega)]; exact gc, fun i hi => by rw [kv_si_n (by omega)]; exact gs i hi, hp, hsl⟩
theorem kpMs.w1 {u v : KMem} {g : Nat → Int32} {op : Nat} {s : KPs} (hg : kGI g) (h : kpMs u g op s v) : kpMe u s.1 (kv_si v 413 10 1) := by
  obtain ⟨E, g10, g6, g7, g9, gc, gs, hp, hsl⟩ := h
  have := (hg.cnt (k := 5) rfl).2
  exact ⟨E.si (Or.inl ⟨rfl, by omega⟩), kv_si_s _ _ _ _, by rw [kv_si_n (by omega)]; exact g6, by omega⟩
theorem kpMr.dec {u v : KMem} {g : Nat → Int32} {op : Nat} : ∀ {r : KPt}, kpMr u g (op + 1) r v → kpMr u g op r (kv_si v 413 9 (v.2.1 413 9 - 1))
  | .ok s, h => by
    obtain ⟨E, g10, g6, g7, g9, gc, gs, hp, hsl⟩ := h
    refine ⟨E.si (Or.inl ⟨rfl, by omega⟩), by rw [kv_si_n (by omega)]; exact g10, by rw [kv_si_n (by omega)]; exact g6, by rw [kv_si_n (by omega)]; exact g7, ?_, by rw [kv_si_n (by omega)]; exact gc, fun i hi => by rw [kv_si_n (by omega)]; exact gs i hi, hp, hsl⟩
    rw [kv_si_s, g9]
    exact kn_sub (i := op + 1) (j := 1) rfl rfl (by omega)
  | .error f, h => by
    obtain ⟨E, g10, g6, hf⟩ := h
    exact ⟨E.si (Or.inl ⟨rfl, by omega⟩), by rw [kv_si_n (by omega)]; exact g10, by rw [kv_si_n (by omega)]; exact g6, hf⟩
theorem kpW3_lr {B : Nat → Int32} {n p : Nat} {b c : Int32} (h : kpW3 B n p 109 b c) : p < n ∧ kpWo B n p = -3 := by
  have hp : p < n := Decidable.byContradiction fun q => by
    have := h.1
    rw [kpTe_ge q] at this
    omega
  refine ⟨hp, ?_⟩
  unfold kpWo
  rw [if_pos hp, h.2.1]
  decide
theorem kpNm_l {use : Nat} {x : Int32} (h : ¬ kpNm use x = -1) : kpLr x = true := by
  refine Decidable.byContradiction fun q => h ?_
  have n : ∀ c : Int32, kpLr c = true → ¬ x = c := fun c hc e => q (by rw [e]; exact hc)
  unfold kpNm
  rw [if_neg (n 108 (by decide)), if_neg (n 109 (by decide)), if_neg (n 110 (by decide)), if_neg (n 118 (by decide)), if_neg (n 114 (by decide)), if_neg (n 101 (by decide)), if_neg (n 99 (by decide)), if_neg (n 99 (by decide)), if_neg (n 107 (by decide)), if_neg (n 98 (by decide))]
  repeat' split
  all_goals rfl
def kpMl : Nat → KM
  | 0 => mX12_text
  | 1 => mX12_both
  | 2 => mX12_compared
  | 3 => mX12_sum
  | 4 => mX12_term
  | _ => mX12_one
set_option maxRecDepth 20000 in
set_option maxHeartbeats 4000000 in
theorem qX12_one_e {w : KW} {l : Launch} {u : KMem} {g : Nat → Int32} {use : Nat} (mx : kpMx u g use) {f : Nat} {v : KMem} (hX : kpMe u f v) {d : Nat} (hd : 5 ≤ d) : KC w l mX12_one d 0 0 [.ref 413] v (fun r z => r = none ∧ kpMe u f z) := by
  have hu := mx.wd
  have eg := mx.eg
  have hg := mx.hg
  have hw5 := hg.cnt (k := 5) rfl
  obtain ⟨E, g10, g6, hf⟩ := id hX
  have mv := mx.of E
  have hv := mv.wd
  have egv := mv.eg
  refine KC.of (ls := [_, _, _]) rfl rfl (Nat.le_of_ble_eq_true rfl) ?_
  refine kv_aload_n dX12_one_0 rfl ?_
  refine kv_ldcSW (i := 3) dX12_one_1 rfl rfl rfl ?_
  refine kw_Vi [_] mX12_isAt dX12_one_4 lX12_207 wX12_isAt kC12 hv rfl (by first | rfl | assumption) rfl rfl rfl (qX12_isAt_e mx hX (i := 3) (by decide)) (by omega) ?_
  refine kv_istore_n (ls2 := [_, _, _]) dX12_one_7 rfl rfl rfl rfl ?_
  refine kv_iload_n dX12_one_8 rfl ?_
  refine kv_if_ne dX12_one_9 22 (by decide) (fun h1 => ?_) (fun h1 => ?_)
  · exact absurd h1 (by decide)
  · refine kv_aload_n dX12_one_12 rfl ?_
    refine kv_ldcSW (i := 4) dX12_one_13 rfl rfl rfl ?_
    refine kw_Vi [_] mX12_isAt dX12_one_16 lX12_207 wX12_isAt kC12 hv rfl (by first | rfl | assumption) rfl rfl rfl (qX12_isAt_e mx hX (i := 4) (by decide)) (by omega) ?_
    refine kv_if_eq dX12_one_19 104 (by decide) (fun h2 => ?_) (fun h2 => ?_)
    · refine kv_aload_n dX12_one_104 rfl ?_
      refine kv_ldcSW (i := 8) dX12_one_105 rfl rfl rfl ?_
      refine kw_Vi [_] mX12_isAt dX12_one_108 lX12_207 wX12_isAt kC12 hv rfl (by first | rfl | assumption) rfl rfl rfl (qX12_isAt_e mx hX (i := 8) (by decide)) (by omega) ?_
      refine kv_if_ne dX12_one_111 123 (by decide) (fun h3 => ?_) (fun h3 => ?_)
      · exact absurd h3 (by decide)
      · refine kv_aload_n dX12_one_114 rfl ?_
        refine kv_ldcS (i := 9) dX12_one_115 rfl rfl rfl ?_
        refine kw_Vi [_] mX12_isAt dX12_one_117 lX12_207 wX12_isAt kC12 hv rfl (by first | rfl | assumption) rfl rfl rfl (qX12_isAt_e mx hX (i := 9) (by decide)) (by omega) ?_
        refine kv_if_eq dX12_one_120 172 (by decide) (fun h4 => ?_) (fun h4 => ?_)
        · refine kv_aload_n dX12_one_172 rfl ?_
          refine kv_ldcSW (i := 5) dX12_one_173 rfl rfl rfl ?_
          refine kw_Vi [_] mX12_isAt dX12_one_176 lX12_207 wX12_isAt kC12 hv rfl (by first | rfl | assumption) rfl rfl rfl (qX12_isAt_e mx hX (i := 5) (by decide)) (by omega) ?_
          refine kv_if_eq dX12_one_179 213 (by decide) (fun h5 => ?_) (fun h5 => ?_)
          · refine kv_aload_n dX12_one_213 rfl ?_
            refine kw_VQ [] mX12_plain dX12_one_214 lX12_281 wX12_plain kC12 hv rfl (by first | rfl | assumption) rfl rfl rfl (qX12_plain_e mx hX) (by omega) (fun _ v1 q1 => ?_)
            obtain ⟨rfl, x1⟩ := q1
            have hv1 := x1.1.wd hu
            exact kv_vret dX12_one_217 rfl ⟨rfl, x1⟩
          · exact absurd h5 (by decide)
        · exact absurd h4 (by decide)
    · exact absurd h2 (by decide)

set_option maxRecDepth 20000 in
set_option maxHeartbeats 4000000 in
theorem qX12_term_e {w : KW} {l : Launch} {u : KMem} {g : Nat → Int32} {use : Nat} (mx : kpMx u g use) {f : Nat} {v : KMem} (hX : kpMe u f v) {d : Nat} (hd : 6 ≤ d) : KC w l mX12_term d 0 0 [.ref 413] v (fun r z => r = none ∧ kpMe u f z) := by
  have hu := mx.wd
  have eg := mx.eg
  have hg := mx.hg
  have hw5 := hg.cnt (k := 5) rfl
  obtain ⟨E, g10, g6, hf⟩ := id hX
  have mv := mx.of E
  have hv := mv.wd
  have egv := mv.eg
  refine KC.of (ls := [_, _]) rfl rfl (Nat.le_of_ble_eq_true rfl) ?_
  refine kv_aload_n dX12_term_0 rfl ?_
  refine kw_VQ [] mX12_one dX12_term_1 lX12_250 wX12_one kC12 hv rfl (by first | rfl | assumption) rfl rfl rfl (qX12_one_e mx hX (d := 5) (by omega)) (by omega) (fun _ v1 q1 => ?_)
  obtain ⟨rfl, x1⟩ := q1
  have hv1 := x1.1.wd hu
  refine kv_aload_n dX12_term_4 rfl ?_
  refine kv_ldcS (i := 10) dX12_term_5 rfl rfl rfl ?_
  refine kw_Vi [_] mX12_takes dX12_term_7 lX12_214 wX12_takes kC12 hv1 rfl (by first | rfl | assumption) rfl rfl rfl (qX12_takes_e mx x1 (i := 10) (by decide)) (by omega) ?_
  refine kv_if_eq dX12_term_10 19 (by decide) (fun h1 => ?_) (fun h1 => ?_)
  · refine kv_aload_n dX12_term_19 rfl ?_
    refine kv_ldcS (i := 11) dX12_term_20 rfl rfl rfl ?_
    refine kw_Vi [_] mX12_takes dX12_term_22 lX12_214 wX12_takes kC12 hv1 rfl (by first | rfl | assumption) rfl rfl rfl (qX12_takes_e mx x1 (i := 11) (by decide)) (by omega) ?_
    refine kv_if_eq dX12_term_25 34 (by decide) (fun h2 => ?_) (fun h2 => ?_)
    · refine kv_iconst dX12_term_34 0 ki_0 ?_
      refine kv_istore_n (ls2 := [_, _]) dX12_term_35 rfl rfl rfl rfl ?_
      refine kv_iload_n dX12_term_36 rfl ?_
      refine kv_if_le dX12_term_37 84 (by decide) (fun h3 => ?_) (fun h3 => ?_)
      · exact kv_vret dX12_term_84 rfl ⟨rfl, x1⟩
      · exact absurd h3 (by decide)
    · exact absurd h2 (by decide)
  · exact absurd h1 (by decide)

set_option maxRecDepth 20000 in
set_option maxHeartbeats 4000000 in
theorem qX12_sum_e {w : KW} {l : Launch} {u : KMem} {g : Nat → Int32} {use : Nat} (mx : kpMx u g use) {f : Nat} {v : KMem} (hX : kpMe u f v) {d : Nat} (hd : 7 ≤ d) : KC w l mX12_sum d 0 0 [.ref 413] v (fun r z => r = none ∧ kpMe u f z) := by
  have hu := mx.wd
  have eg := mx.eg
  have hg := mx.hg
  have hw5 := hg.cnt (k := 5) rfl
  obtain ⟨E, g10, g6, hf⟩ := id hX
  have mv := mx.of E
  have hv := mv.wd
  have egv := mv.eg
  refine KC.of (ls := [_, _]) rfl rfl (Nat.le_of_ble_eq_true rfl) ?_
  refine kv_aload_n dX12_sum_0 rfl ?_
  refine kw_VQ [] mX12_term dX12_sum_1 lX12_243 wX12_term kC12 hv rfl (by first | rfl | assumption) rfl rfl rfl (qX12_term_e mx hX (d := 6) (by omega)) (by omega) (fun _ v1 q1 => ?_)
  obtain ⟨rfl, x1⟩ := q1
  have hv1 := x1.1.wd hu
  refine kv_aload_n dX12_sum_4 rfl ?_
  refine kv_ldcS (i := 12) dX12_sum_5 rfl rfl rfl ?_
  refine kw_Vi [_] mX12_takes dX12_sum_7 lX12_214 wX12_takes kC12 hv1 rfl (by first | rfl | assumption) rfl rfl rfl (qX12_takes_e mx x1 (i := 12) (by decide)) (by omega) ?_
  refine kv_if_eq dX12_sum_10 19 (by decide) (fun h1 => ?_) (fun h1 => ?_)
  · refine kv_aload_n dX12_sum_19 rfl ?_
    refine kv_ldcS (i := 9) dX12_sum_20 rfl rfl rfl ?_
    refine kw_Vi [_] mX12_takes dX12_sum_22 lX12_214 wX12_takes kC12 hv1 rfl (by first | rfl | assumption) rfl rfl rfl (qX12_takes_e mx x1 (i := 9) (by decide)) (by omega) ?_
    refine kv_if_eq dX12_sum_25 34 (by decide) (fun h2 => ?_) (fun h2 => ?_)
    · refine kv_iconst dX12_sum_34 0 ki_0 ?_
      refine kv_istore_n (ls2 := [_, _]) dX12_sum_35 rfl rfl rfl rfl ?_
      refine kv_iload_n dX12_sum_36 rfl ?_
      refine kv_if_le dX12_sum_37 84 (by decide) (fun h3 => ?_) (fun h3 => ?_)
      · exact kv_vret dX12_sum_84 rfl ⟨rfl, x1⟩
      · exact absurd h3 (by decide)
    · exact absurd h2 (by decide)
  · exact absurd h1 (by decide)

set_option maxRecDepth 20000 in
set_option maxHeartbeats 4000000 in
theorem qX12_compared_e {w : KW} {l : Launch} {u : KMem} {g : Nat → Int32} {use : Nat} (mx : kpMx u g use) {f : Nat} {v : KMem} (hX : kpMe u f v) {d : Nat} (hd : 8 ≤ d) : KC w l mX12_compared d 0 0 [.ref 413] v (fun r z => r = none ∧ kpMe u f z) := by
  have hu := mx.wd
  have eg := mx.eg
  have hg := mx.hg
  have hw5 := hg.cnt (k := 5) rfl
  obtain ⟨E, g10, g6, hf⟩ := id hX
  have mv := mx.of E
  have hv := mv.wd
  have egv := mv.eg
  refine KC.of (ls := [_, _]) rfl rfl (Nat.le_of_ble_eq_true rfl) ?_
  refine kv_aload_n dX12_compared_0 rfl ?_
  refine kw_VQ [] mX12_sum dX12_compared_1 lX12_234 wX12_sum kC12 hv rfl (by first | rfl | assumption) rfl rfl rfl (qX12_sum_e mx hX (d := 7) (by omega)) (by omega) (fun _ v1 q1 => ?_)
  obtain ⟨rfl, x1⟩ := q1
  have hv1 := x1.1.wd hu
  refine kv_aload_n dX12_compared_4 rfl ?_
  refine kv_ldcS (i := 13) dX12_compared_5 rfl rfl rfl ?_
  refine kw_Vi [_] mX12_takes dX12_compared_7 lX12_214 wX12_takes kC12 hv1 rfl (by first | rfl | assumption) rfl rfl rfl (qX12_takes_e mx x1 (i := 13) (by decide)) (by omega) ?_
  refine kv_if_eq dX12_compared_10 19 (by decide) (fun h1 => ?_) (fun h1 => ?_)
  · refine kv_aload_n dX12_compared_19 rfl ?_
    refine kv_ldcS (i := 14) dX12_compared_20 rfl rfl rfl ?_
    refine kw_Vi [_] mX12_takes dX12_compared_22 lX12_214 wX12_takes kC12 hv1 rfl (by first | rfl | assumption) rfl rfl rfl (qX12_takes_e mx x1 (i := 14) (by decide)) (by omega) ?_
    refine kv_if_eq dX12_compared_25 34 (by decide) (fun h2 => ?_) (fun h2 => ?_)
    · refine kv_aload_n dX12_compared_34 rfl ?_
      refine kv_ldcS (i := 15) dX12_compared_35 rfl rfl rfl ?_
      refine kw_Vi [_] mX12_takes dX12_compared_37 lX12_214 wX12_takes kC12 hv1 rfl (by first | rfl | assumption) rfl rfl rfl (qX12_takes_e mx x1 (i := 15) (by decide)) (by omega) ?_
      refine kv_if_eq dX12_compared_40 49 (by decide) (fun h3 => ?_) (fun h3 => ?_)
      · refine kv_iconst dX12_compared_49 0 ki_0 ?_
        refine kv_istore_n (ls2 := [_, _]) dX12_compared_50 rfl rfl rfl rfl ?_
        refine kv_iload_n dX12_compared_51 rfl ?_
        refine kv_if_le dX12_compared_52 64 (by decide) (fun h4 => ?_) (fun h4 => ?_)
        · exact kv_vret dX12_compared_64 rfl ⟨rfl, x1⟩
        · exact absurd h4 (by decide)
      · exact absurd h3 (by decide)
    · exact absurd h2 (by decide)
  · exact absurd h1 (by decide)

set_option maxRecDepth 20000 in
set_option maxHeartbeats 4000000 in
theorem qX12_both_e {w : KW} {l : Launch} {u : KMem} {g : Nat → Int32} {use : Nat} (mx : kpMx u g use) {f : Nat} {v : KMem} (hX : kpMe u f v) {d : Nat} (hd : 9 ≤ d) : KC w l mX12_both d 0 0 [.ref 413] v (fun r z => r = none ∧ kpMe u f z) := by
  have hu := mx.wd
  have eg := mx.eg
  have hg := mx.hg
  have hw5 := hg.cnt (k := 5) rfl
  obtain ⟨E, g10, g6, hf⟩ := id hX
  have mv := mx.of E
  have hv := mv.wd
  have egv := mv.eg
  refine KC.of (ls := [_]) rfl rfl (Nat.le_of_ble_eq_true rfl) ?_
  refine kv_aload_n dX12_both_0 rfl ?_
  refine kw_VQ [] mX12_compared dX12_both_1 lX12_229 wX12_compared kC12 hv rfl (by first | rfl | assumption) rfl rfl rfl (qX12_compared_e mx hX (d := 8) (by omega)) (by omega) (fun _ v1 q1 => ?_)
  obtain ⟨rfl, x1⟩ := q1
  have hv1 := x1.1.wd hu
  refine kv_aload_n dX12_both_4 rfl ?_
  refine kv_ldcS (i := 16) dX12_both_5 rfl rfl rfl ?_
  refine kw_Vi [_] mX12_takes dX12_both_7 lX12_214 wX12_takes kC12 hv1 rfl (by first | rfl | assumption) rfl rfl rfl (qX12_takes_e mx x1 (i := 16) (by decide)) (by omega) ?_
  refine kv_if_eq dX12_both_10 27 (by decide) (fun h1 => ?_) (fun h1 => ?_)
  · exact kv_vret dX12_both_27 rfl ⟨rfl, x1⟩
  · exact absurd h1 (by decide)

set_option maxRecDepth 20000 in
set_option maxHeartbeats 4000000 in
theorem qX12_text_e {w : KW} {l : Launch} {u : KMem} {g : Nat → Int32} {use : Nat} (mx : kpMx u g use) {f : Nat} {v : KMem} (hX : kpMe u f v) {d : Nat} (hd : 10 ≤ d) : KC w l mX12_text d 0 0 [.ref 413] v (fun r z => r = none ∧ kpMe u f z) := by
  have hu := mx.wd
  have eg := mx.eg
  have hg := mx.hg
  have hw5 := hg.cnt (k := 5) rfl
  obtain ⟨E, g10, g6, hf⟩ := id hX
  have mv := mx.of E
  have hv := mv.wd
  have egv := mv.eg
  refine KC.of (ls := [_]) rfl rfl (Nat.le_of_ble_eq_true rfl) ?_
  refine kv_aload_n dX12_text_0 rfl ?_
  refine kw_VQ [] mX12_both dX12_text_1 lX12_220 wX12_both kC12 hv rfl (by first | rfl | assumption) rfl rfl rfl (qX12_both_e mx hX (d := 9) (by omega)) (by omega) (fun _ v1 q1 => ?_)
  obtain ⟨rfl, x1⟩ := q1
  have hv1 := x1.1.wd hu
  refine kv_aload_n dX12_text_4 rfl ?_
  refine kv_ldcS (i := 17) dX12_text_5 rfl rfl rfl ?_
  refine kw_Vi [_] mX12_takes dX12_text_7 lX12_214 wX12_takes kC12 hv1 rfl (by first | rfl | assumption) rfl rfl rfl (qX12_takes_e mx x1 (i := 17) (by decide)) (by omega) ?_
  refine kv_if_eq dX12_text_10 27 (by decide) (fun h1 => ?_) (fun h1 => ?_)
  · exact kv_vret dX12_text_27 rfl ⟨rfl, x1⟩
  · exact absurd h1 (by decide)

set_option maxRecDepth 20000 in
set_option maxHeartbeats 4000000 in
theorem qX12_text_l {w : KW} {l : Launch} {u : KMem} {g : Nat → Int32} {use : Nat} (mx : kpMx u g use) {D op : Nat} (hop : op ≤ 5) (hL : ∀ (s : KPs) (v : KMem), kpMs u g op s v → KC w l mX12_both (D + 10) 0 0 [.ref 413] v (fun q z => q = none ∧ kpMr u g op ((kpPr (kpB g) (kN g 5) use D 1 op) s) z)) {RES : KPt} {rk : KPt} {z : KMem} (hz : kpMr u g op rk z) (hRk : kpBd rk (kpLp (kpB g) (kN g 5) (kpPr (kpB g) (kN g 5) use D 1 op) 0 60) = RES) : KV w l mX12_text (D + 11) 0 0 4 [some (.ref 413)] [] z (fun q z => q = none ∧ kpMr u g op RES z) := by
  have hg := mx.hg
  have hw5 := hg.cnt (k := 5) rfl
  refine (kn_loop (P := fun i => i ≤ 60 → ∀ (rk : KPt) (z : KMem), kpMr u g op rk z → (∀ s, rk = .ok s → 60 ≤ s.1 + (60 - i)) → kpBd rk (kpLp (kpB g) (kN g 5) (kpPr (kpB g) (kN g 5) use D 1 op) 0 (60 - i)) = RES → KV w l mX12_text (D + 11) 0 0 4 [some (.ref 413)] [] z (fun q z => q = none ∧ kpMr u g op RES z)) 61 (fun h => absurd h (by omega)) (fun i hi ih => ?_)) (by omega) rk z hz (fun s _ => by omega) hRk
  clear hRk hz
  intro h60 rk z hz hm hRk
  have hvz := hz.e.wd mx.wd
  refine kv_aload_n dX12_text_4 rfl ?_
  refine kv_ldcS (i := 17) dX12_text_5 rfl rfl rfl ?_
  rcases rk with f | s
  · have hfin : (Except.error f : KPt) = RES := hRk
    have hze : kpMe u f z := hz
    refine kw_Vi [_] mX12_takes dX12_text_7 lX12_214 wX12_takes kC12 hvz rfl (by first | rfl | assumption) rfl rfl rfl (qX12_takes_e mx hze (i := 17) (by decide)) (by omega) ?_
    refine kv_if_eq dX12_text_10 27 (by decide) (fun h1 => ?_) (fun h1 => ?_)
    · exact kv_vret dX12_text_27 rfl (by rw [← hfin]; exact ⟨rfl, hz⟩)
    · exact absurd h1 (by decide)
  · have hzs : kpMs u g op s z := hz
    by_cases hM : kpAt g s 17
    · have hw : kpWo (kpB g) (kN g 5) s.1 = 124 := (kpAt_1 (g := g) (s := s) (i := 17) (c := 124) (by decide +kernel) (by decide +kernel) (by unfold kpSn; decide)).mp hM
      have hlt : s.1 < kN g 5 := ((kpWo_is (by unfold kpSn; decide)).mp hw).1
      have hlv : kpLv (kpWo (kpB g) (kN g 5) s.1) = nI 0 := by rw [hw]; decide
      have hsg : kpSg (kpWo (kpB g) (kN g 5) s.1) = 20000 := by rw [hw]; decide
      obtain ⟨m, em⟩ : ∃ m, 60 - i = m + 1 := ⟨60 - i - 1, by have := hm s rfl; omega⟩
      rw [em] at hRk
      have hR2 : kpBd (kpBd ((kpPr (kpB g) (kN g 5) use D 1 op) (kpNx (kpB g) (kN g 5) s.1, s.2)) (kpPu 20000)) (kpLp (kpB g) (kN g 5) (kpPr (kpB g) (kN g 5) use D 1 op) 0 m) = RES := by
        rw [← hRk, ← hsg]
        exact (kpLp_y hlv).symm
      obtain ⟨-, -, -, -, -, -, -, -, hsl⟩ := id hzs
      refine kw_VQ [_] mX12_takes dX12_text_7 lX12_214 wX12_takes kC12 hvz rfl (by first | rfl | assumption) rfl rfl rfl (qX12_takes_y mx hzs (i := 17) (by decide) hM hlt) (by omega) (fun _ v1 q1 => ?_)
      obtain ⟨rfl, x1⟩ := q1
      have hv1 := x1.1.wd mx.wd
      refine kv_if_eq dX12_text_10 27 (by decide) (fun h2 => ?_) (fun h2 => ?_)
      · exact absurd h2 (by decide)
      · refine kv_aload_n dX12_text_13 rfl ?_
        refine kw_VQ [] mX12_both dX12_text_14 lX12_220 wX12_both kC12 hv1 rfl (by first | rfl | assumption) rfl rfl rfl (hL _ _ x1) (by omega) (fun _ v2 q2 => ?_)
        obtain ⟨rfl, x2⟩ := q2
        have hv2 := x2.e.wd mx.wd
        refine kv_aload_n dX12_text_17 rfl ?_
        refine kv_sipush dX12_text_18 20000 kz_20000 ?_
        refine kw_VQ [_] mX12_codes dX12_text_21 lX12_225 wX12_codes kC12 hv2 rfl (by first | rfl | assumption) rfl rfl rfl (qX12_codes mx x2 20000 (fun s5 q => kpSl (fun i hi => mx.hg.2.2.2.2.2.2.2.2 i hi) hlt hsl q)) (by omega) (fun _ v3 q3 => ?_)
        obtain ⟨rfl, x3⟩ := q3
        have hv3 := x3.e.wd mx.wd
        refine kv_goto dX12_text_24 4 (by decide) ?_
        refine KV.loc (ih (by omega) _ _ x3 (fun t q => ?_) ?_) (ksS rfl ksN)
        · have := (kpGo (fun i hi => mx.hg.2.2.2.2.2.2.2.2 i hi) hlt hsl q).1
          have := hm s rfl
          omega
        · rw [show 60 - (i + 1) = m by omega]
          exact hR2
    · have hfin : (Except.ok s : KPt) = RES := by
        rw [← hRk]
        exact (kpLp_no (kpLv_0 (fun q => hM ((kpAt_1 (g := g) (s := s) (i := 17) (c := 124) (by decide +kernel) (by decide +kernel) (by unfold kpSn; decide)).mpr q)))).symm
      refine kw_Vi [_] mX12_takes dX12_text_7 lX12_214 wX12_takes kC12 hvz rfl (by first | rfl | assumption) rfl rfl rfl (qX12_takes_n mx hzs (i := 17) (by decide) hM) (by omega) ?_
      refine kv_if_eq dX12_text_10 27 (by decide) (fun h3 => ?_) (fun h3 => ?_)
      · exact kv_vret dX12_text_27 rfl (by rw [← hfin]; exact ⟨rfl, hz⟩)
      · exact absurd h3 (by decide)

set_option maxRecDepth 20000 in
set_option maxHeartbeats 4000000 in
theorem qX12_text_s {w : KW} {l : Launch} {u : KMem} {g : Nat → Int32} {use : Nat} (mx : kpMx u g use) {D op : Nat} (hop : op ≤ 5) (hL : ∀ (s : KPs) (v : KMem), kpMs u g op s v → KC w l mX12_both (D + 10) 0 0 [.ref 413] v (fun q z => q = none ∧ kpMr u g op ((kpPr (kpB g) (kN g 5) use D 1 op) s) z)) {v : KMem} {s : KPs} (hX : kpMs u g op s v) : KC w l mX12_text (D + 11) 0 0 [.ref 413] v (fun q z => q = none ∧ kpMr u g op (kpPr (kpB g) (kN g 5) use (D + 1) 0 op s) z) := by
  have hu := mx.wd
  have eg := mx.eg
  have hg := mx.hg
  have hw5 := hg.cnt (k := 5) rfl
  obtain ⟨E, g10, g6, g7, g9, gc, gs, hp, hsl⟩ := id hX
  have mv := mx.of E
  have hv := mv.wd
  have egv := mv.eg
  have hte := kpTe_le (B := kpB g) hp
  refine KC.of (ls := [_]) rfl rfl (Nat.le_of_ble_eq_true rfl) ?_
  refine kv_aload_n dX12_text_0 rfl ?_
  refine kw_VQ [] mX12_both dX12_text_1 lX12_220 wX12_both kC12 hv rfl (by first | rfl | assumption) rfl rfl rfl (hL _ _ hX) (by omega) (fun _ v1 q1 => ?_)
  obtain ⟨rfl, x1⟩ := q1
  have hv1 := x1.e.wd mx.wd
  exact KV.loc (qX12_text_l mx hop hL x1 rfl) (ksS rfl ksN)

set_option maxRecDepth 20000 in
set_option maxHeartbeats 4000000 in
theorem qX12_both_l {w : KW} {l : Launch} {u : KMem} {g : Nat → Int32} {use : Nat} (mx : kpMx u g use) {D op : Nat} (hop : op ≤ 5) (hL : ∀ (s : KPs) (v : KMem), kpMs u g op s v → KC w l mX12_compared (D + 10) 0 0 [.ref 413] v (fun q z => q = none ∧ kpMr u g op ((kpPr (kpB g) (kN g 5) use D 2 op) s) z)) {RES : KPt} {rk : KPt} {z : KMem} (hz : kpMr u g op rk z) (hRk : kpBd rk (kpLp (kpB g) (kN g 5) (kpPr (kpB g) (kN g 5) use D 2 op) 1 60) = RES) : KV w l mX12_both (D + 11) 0 0 4 [some (.ref 413)] [] z (fun q z => q = none ∧ kpMr u g op RES z) := by
  have hg := mx.hg
  have hw5 := hg.cnt (k := 5) rfl
  refine (kn_loop (P := fun i => i ≤ 60 → ∀ (rk : KPt) (z : KMem), kpMr u g op rk z → (∀ s, rk = .ok s → 60 ≤ s.1 + (60 - i)) → kpBd rk (kpLp (kpB g) (kN g 5) (kpPr (kpB g) (kN g 5) use D 2 op) 1 (60 - i)) = RES → KV w l mX12_both (D + 11) 0 0 4 [some (.ref 413)] [] z (fun q z => q = none ∧ kpMr u g op RES z)) 61 (fun h => absurd h (by omega)) (fun i hi ih => ?_)) (by omega) rk z hz (fun s _ => by omega) hRk
  clear hRk hz
  intro h60 rk z hz hm hRk
  have hvz := hz.e.wd mx.wd
  refine kv_aload_n dX12_both_4 rfl ?_
  refine kv_ldcS (i := 16) dX12_both_5 rfl rfl rfl ?_
  rcases rk with f | s
  · have hfin : (Except.error f : KPt) = RES := hRk
    have hze : kpMe u f z := hz
    refine kw_Vi [_] mX12_takes dX12_both_7 lX12_214 wX12_takes kC12 hvz rfl (by first | rfl | assumption) rfl rfl rfl (qX12_takes_e mx hze (i := 16) (by decide)) (by omega) ?_
    refine kv_if_eq dX12_both_10 27 (by decide) (fun h1 => ?_) (fun h1 => ?_)
    · exact kv_vret dX12_both_27 rfl (by rw [← hfin]; exact ⟨rfl, hz⟩)
    · exact absurd h1 (by decide)
  · have hzs : kpMs u g op s z := hz
    by_cases hM : kpAt g s 16
    · have hw : kpWo (kpB g) (kN g 5) s.1 = 38 := (kpAt_1 (g := g) (s := s) (i := 16) (c := 38) (by decide +kernel) (by decide +kernel) (by unfold kpSn; decide)).mp hM
      have hlt : s.1 < kN g 5 := ((kpWo_is (by unfold kpSn; decide)).mp hw).1
      have hlv : kpLv (kpWo (kpB g) (kN g 5) s.1) = nI 1 := by rw [hw]; decide
      have hsg : kpSg (kpWo (kpB g) (kN g 5) s.1) = 20001 := by rw [hw]; decide
      obtain ⟨m, em⟩ : ∃ m, 60 - i = m + 1 := ⟨60 - i - 1, by have := hm s rfl; omega⟩
      rw [em] at hRk
      have hR2 : kpBd (kpBd ((kpPr (kpB g) (kN g 5) use D 2 op) (kpNx (kpB g) (kN g 5) s.1, s.2)) (kpPu 20001)) (kpLp (kpB g) (kN g 5) (kpPr (kpB g) (kN g 5) use D 2 op) 1 m) = RES := by
        rw [← hRk, ← hsg]
        exact (kpLp_y hlv).symm
      obtain ⟨-, -, -, -, -, -, -, -, hsl⟩ := id hzs
      refine kw_VQ [_] mX12_takes dX12_both_7 lX12_214 wX12_takes kC12 hvz rfl (by first | rfl | assumption) rfl rfl rfl (qX12_takes_y mx hzs (i := 16) (by decide) hM hlt) (by omega) (fun _ v1 q1 => ?_)
      obtain ⟨rfl, x1⟩ := q1
      have hv1 := x1.1.wd mx.wd
      refine kv_if_eq dX12_both_10 27 (by decide) (fun h2 => ?_) (fun h2 => ?_)
      · exact absurd h2 (by decide)
      · refine kv_aload_n dX12_both_13 rfl ?_
        refine kw_VQ [] mX12_compared dX12_both_14 lX12_229 wX12_compared kC12 hv1 rfl (by first | rfl | assumption) rfl rfl rfl (hL _ _ x1) (by omega) (fun _ v2 q2 => ?_)
        obtain ⟨rfl, x2⟩ := q2
        have hv2 := x2.e.wd mx.wd
        refine kv_aload_n dX12_both_17 rfl ?_
        refine kv_sipush dX12_both_18 20001 kz_20001 ?_
        refine kw_VQ [_] mX12_codes dX12_both_21 lX12_225 wX12_codes kC12 hv2 rfl (by first | rfl | assumption) rfl rfl rfl (qX12_codes mx x2 20001 (fun s5 q => kpSl (fun i hi => mx.hg.2.2.2.2.2.2.2.2 i hi) hlt hsl q)) (by omega) (fun _ v3 q3 => ?_)
        obtain ⟨rfl, x3⟩ := q3
        have hv3 := x3.e.wd mx.wd
        refine kv_goto dX12_both_24 4 (by decide) ?_
        refine KV.loc (ih (by omega) _ _ x3 (fun t q => ?_) ?_) (ksS rfl ksN)
        · have := (kpGo (fun i hi => mx.hg.2.2.2.2.2.2.2.2 i hi) hlt hsl q).1
          have := hm s rfl
          omega
        · rw [show 60 - (i + 1) = m by omega]
          exact hR2
    · have hfin : (Except.ok s : KPt) = RES := by
        rw [← hRk]
        exact (kpLp_no (kpLv_1 (fun q => hM ((kpAt_1 (g := g) (s := s) (i := 16) (c := 38) (by decide +kernel) (by decide +kernel) (by unfold kpSn; decide)).mpr q)))).symm
      refine kw_Vi [_] mX12_takes dX12_both_7 lX12_214 wX12_takes kC12 hvz rfl (by first | rfl | assumption) rfl rfl rfl (qX12_takes_n mx hzs (i := 16) (by decide) hM) (by omega) ?_
      refine kv_if_eq dX12_both_10 27 (by decide) (fun h3 => ?_) (fun h3 => ?_)
      · exact kv_vret dX12_both_27 rfl (by rw [← hfin]; exact ⟨rfl, hz⟩)
      · exact absurd h3 (by decide)

set_option maxRecDepth 20000 in
set_option maxHeartbeats 4000000 in
theorem qX12_both_s {w : KW} {l : Launch} {u : KMem} {g : Nat → Int32} {use : Nat} (mx : kpMx u g use) {D op : Nat} (hop : op ≤ 5) (hL : ∀ (s : KPs) (v : KMem), kpMs u g op s v → KC w l mX12_compared (D + 10) 0 0 [.ref 413] v (fun q z => q = none ∧ kpMr u g op ((kpPr (kpB g) (kN g 5) use D 2 op) s) z)) {v : KMem} {s : KPs} (hX : kpMs u g op s v) : KC w l mX12_both (D + 11) 0 0 [.ref 413] v (fun q z => q = none ∧ kpMr u g op (kpPr (kpB g) (kN g 5) use (D + 1) 1 op s) z) := by
  have hu := mx.wd
  have eg := mx.eg
  have hg := mx.hg
  have hw5 := hg.cnt (k := 5) rfl
  obtain ⟨E, g10, g6, g7, g9, gc, gs, hp, hsl⟩ := id hX
  have mv := mx.of E
  have hv := mv.wd
  have egv := mv.eg
  have hte := kpTe_le (B := kpB g) hp
  refine KC.of (ls := [_]) rfl rfl (Nat.le_of_ble_eq_true rfl) ?_
  refine kv_aload_n dX12_both_0 rfl ?_
  refine kw_VQ [] mX12_compared dX12_both_1 lX12_229 wX12_compared kC12 hv rfl (by first | rfl | assumption) rfl rfl rfl (hL _ _ hX) (by omega) (fun _ v1 q1 => ?_)
  obtain ⟨rfl, x1⟩ := q1
  have hv1 := x1.e.wd mx.wd
  exact KV.loc (qX12_both_l mx hop hL x1 rfl) (ksS rfl ksN)

set_option maxRecDepth 20000 in
set_option maxHeartbeats 4000000 in
theorem qX12_sum_l {w : KW} {l : Launch} {u : KMem} {g : Nat → Int32} {use : Nat} (mx : kpMx u g use) {D op : Nat} (hop : op ≤ 5) (hL : ∀ (s : KPs) (v : KMem), kpMs u g op s v → KC w l mX12_term (D + 10) 0 0 [.ref 413] v (fun q z => q = none ∧ kpMr u g op ((kpPr (kpB g) (kN g 5) use D 4 op) s) z)) {RES : KPt} {s : KPs} {x : Int32} {z : KMem} (hls : s.1 < kN g 5) (hz : kpMs u g op (kpNx (kpB g) (kN g 5) s.1, s.2) z) (hsl : s.2.length ≤ s.1) (hx : x = 20005 ∨ x = 20006) (hRk : kpBd (kpBd ((kpPr (kpB g) (kN g 5) use D 4 op) (kpNx (kpB g) (kN g 5) s.1, s.2)) (kpPu x)) (kpLp (kpB g) (kN g 5) (kpPr (kpB g) (kN g 5) use D 4 op) 3 59) = RES) : KV w l mX12_sum (D + 11) 0 0 36 [some (.ref 413), some (.int x)] [] z (fun q z => q = none ∧ kpMr u g op RES z) := by
  have hg := mx.hg
  have hw5 := hg.cnt (k := 5) rfl
  refine (kn_loop (P := fun i => i ≤ 60 → ∀ (s : KPs) (x : Int32) (z : KMem), s.1 < kN g 5 → kpMs u g op (kpNx (kpB g) (kN g 5) s.1, s.2) z → s.2.length ≤ s.1 → (x = 20005 ∨ x = 20006) → 60 ≤ s.1 + (60 - i) → kpBd (kpBd ((kpPr (kpB g) (kN g 5) use D 4 op) (kpNx (kpB g) (kN g 5) s.1, s.2)) (kpPu x)) (kpLp (kpB g) (kN g 5) (kpPr (kpB g) (kN g 5) use D 4 op) 3 (60 - (i + 1))) = RES → KV w l mX12_sum (D + 11) 0 0 36 [some (.ref 413), some (.int x)] [] z (fun q z => q = none ∧ kpMr u g op RES z)) 61 (fun h => absurd h (by omega)) (fun i hi ih => ?_)) (by omega) s x z hls hz hsl hx (by omega) hRk
  clear hRk hz hx hsl hls
  intro h60 s x z hls hz hsl hx hm hRk
  have hvz := hz.1.wd mx.wd
  refine kv_iload_n dX12_sum_36 rfl ?_
  refine kv_if_le dX12_sum_37 84 (by decide) (fun h1 => ?_) (fun h1 => ?_)
  · exact absurd h1 (by rcases hx with rfl | rfl <;> decide)
  · refine kv_aload_n dX12_sum_40 rfl ?_
    refine kw_VQ [] mX12_term dX12_sum_41 lX12_243 wX12_term kC12 hvz rfl (by first | rfl | assumption) rfl rfl rfl (hL _ _ hz) (by omega) (fun _ v2 q2 => ?_)
    obtain ⟨rfl, x2⟩ := q2
    have hv2 := x2.e.wd mx.wd
    refine kv_aload_n dX12_sum_44 rfl ?_
    refine kv_iload_n dX12_sum_45 rfl ?_
    refine kw_VQ [_] mX12_codes dX12_sum_46 lX12_225 wX12_codes kC12 hv2 rfl (by first | rfl | assumption) rfl rfl rfl (qX12_codes mx x2 x (fun s5 q => kpSl (fun i hi => mx.hg.2.2.2.2.2.2.2.2 i hi) hls hsl q)) (by omega) (fun _ v3 q3 => ?_)
    obtain ⟨rfl, x3⟩ := q3
    have hv3 := x3.e.wd mx.wd
    refine kv_aload_n dX12_sum_49 rfl ?_
    refine kv_ldcS (i := 12) dX12_sum_50 rfl rfl rfl ?_
    rcases hrk : kpBd ((kpPr (kpB g) (kN g 5) use D 4 op) (kpNx (kpB g) (kN g 5) s.1, s.2)) (kpPu x) with f | t
    · rw [hrk] at x3 hRk
      have hfin : (Except.error f : KPt) = RES := hRk
      have hze : kpMe u f _ := x3
      refine kw_Vi [_] mX12_takes dX12_sum_52 lX12_214 wX12_takes kC12 hv3 rfl (by first | rfl | assumption) rfl rfl rfl (qX12_takes_e mx hze (i := 12) (by decide)) (by omega) ?_
      refine kv_if_eq dX12_sum_55 64 (by decide) (fun h2 => ?_) (fun h2 => ?_)
      · refine kv_aload_n dX12_sum_64 rfl ?_
        refine kv_ldcS (i := 9) dX12_sum_65 rfl rfl rfl ?_
        refine kw_Vi [_] mX12_takes dX12_sum_67 lX12_214 wX12_takes kC12 hv3 rfl (by first | rfl | assumption) rfl rfl rfl (qX12_takes_e mx hze (i := 9) (by decide)) (by omega) ?_
        refine kv_if_eq dX12_sum_70 79 (by decide) (fun h3 => ?_) (fun h3 => ?_)
        · refine kv_iconst dX12_sum_79 0 ki_0 ?_
          refine kv_istore_n (ls2 := [_, _]) dX12_sum_80 rfl rfl rfl rfl ?_
          refine kv_goto dX12_sum_81 36 (by decide) ?_
          refine kv_iload_n dX12_sum_36 rfl ?_
          refine kv_if_le dX12_sum_37 84 (by decide) (fun h4 => ?_) (fun h4 => ?_)
          · exact kv_vret dX12_sum_84 rfl (by rw [← hfin]; exact ⟨rfl, x3⟩)
          · exact absurd h4 (by decide)
        · exact absurd h3 (by decide)
      · exact absurd h2 (by decide)
    · have hgo := kpGo (B := kpB g) (fun i hi => mx.hg.2.2.2.2.2.2.2.2 i hi) hls hsl hrk
      have hgt := hgo.1
      rw [hrk] at x3 hRk
      have hzs : kpMs u g op t _ := x3
      obtain ⟨-, -, -, -, -, -, -, -, htl⟩ := id hzs
      by_cases hM : kpAt g t 12
      · have hw : kpWo (kpB g) (kN g 5) t.1 = 43 := (kpAt_1 (g := g) (s := t) (i := 12) (c := 43) (by decide +kernel) (by decide +kernel) (by unfold kpSn; decide)).mp hM
        have hlt : t.1 < kN g 5 := ((kpWo_is (by unfold kpSn; decide)).mp hw).1
        have hlv : kpLv (kpWo (kpB g) (kN g 5) t.1) = nI 3 := by rw [hw]; decide
        have hsg : kpSg (kpWo (kpB g) (kN g 5) t.1) = 20005 := by rw [hw]; decide
        obtain ⟨m, em⟩ : ∃ m, 60 - (i + 1) = m + 1 := ⟨60 - (i + 1) - 1, by omega⟩
        have hR2 : kpBd (kpBd ((kpPr (kpB g) (kN g 5) use D 4 op) (kpNx (kpB g) (kN g 5) t.1, t.2)) (kpPu 20005)) (kpLp (kpB g) (kN g 5) (kpPr (kpB g) (kN g 5) use D 4 op) 3 m) = RES := by
          rw [← hRk, ← hsg]
          rw [em]
          exact (kpLp_y hlv).symm
        refine kw_VQ [_] mX12_takes dX12_sum_52 lX12_214 wX12_takes kC12 hv3 rfl (by first | rfl | assumption) rfl rfl rfl (qX12_takes_y mx hzs (i := 12) (by decide) hM hlt) (by omega) (fun _ v4 q4 => ?_)
        obtain ⟨rfl, x4⟩ := q4
        have hv4 := x4.1.wd mx.wd
        refine kv_if_eq dX12_sum_55 64 (by decide) (fun h5 => ?_) (fun h5 => ?_)
        · exact absurd h5 (by decide)
        · refine kv_sipush dX12_sum_58 20005 kz_20005 ?_
          refine kv_goto dX12_sum_61 80 (by decide) ?_
          refine kv_istore_n (ls2 := [_, _]) dX12_sum_80 rfl rfl rfl rfl ?_
          refine kv_goto dX12_sum_81 36 (by decide) ?_
          refine KV.loc (ih (by omega) t _ _ hlt x4 htl (Or.inl rfl) (by omega) ?_) (ksS rfl (ksS rfl ksN))
          rw [show 60 - (i + 1 + 1) = m by omega]
          exact hR2
      · have hM1 := hM
        clear hM
        refine kw_Vi [_] mX12_takes dX12_sum_52 lX12_214 wX12_takes kC12 hv3 rfl (by first | rfl | assumption) rfl rfl rfl (qX12_takes_n mx hzs (i := 12) (by decide) hM1) (by omega) ?_
        refine kv_if_eq dX12_sum_55 64 (by decide) (fun h6 => ?_) (fun h6 => ?_)
        · refine kv_aload_n dX12_sum_64 rfl ?_
          refine kv_ldcS (i := 9) dX12_sum_65 rfl rfl rfl ?_
          by_cases hM : kpAt g t 9
          · have hw : kpWo (kpB g) (kN g 5) t.1 = 45 := (kpAt_1 (g := g) (s := t) (i := 9) (c := 45) (by decide +kernel) (by decide +kernel) (by unfold kpSn; decide)).mp hM
            have hlt : t.1 < kN g 5 := ((kpWo_is (by unfold kpSn; decide)).mp hw).1
            have hlv : kpLv (kpWo (kpB g) (kN g 5) t.1) = nI 3 := by rw [hw]; decide
            have hsg : kpSg (kpWo (kpB g) (kN g 5) t.1) = 20006 := by rw [hw]; decide
            obtain ⟨m, em⟩ : ∃ m, 60 - (i + 1) = m + 1 := ⟨60 - (i + 1) - 1, by omega⟩
            have hR2 : kpBd (kpBd ((kpPr (kpB g) (kN g 5) use D 4 op) (kpNx (kpB g) (kN g 5) t.1, t.2)) (kpPu 20006)) (kpLp (kpB g) (kN g 5) (kpPr (kpB g) (kN g 5) use D 4 op) 3 m) = RES := by
              rw [← hRk, ← hsg]
              rw [em]
              exact (kpLp_y hlv).symm
            refine kw_VQ [_] mX12_takes dX12_sum_67 lX12_214 wX12_takes kC12 hv3 rfl (by first | rfl | assumption) rfl rfl rfl (qX12_takes_y mx hzs (i := 9) (by decide) hM hlt) (by omega) (fun _ v4 q4 => ?_)
            obtain ⟨rfl, x4⟩ := q4
            have hv4 := x4.1.wd mx.wd
            refine kv_if_eq dX12_sum_70 79 (by decide) (fun h7 => ?_) (fun h7 => ?_)
            · exact absurd h7 (by decide)
            · refine kv_sipush dX12_sum_73 20006 kz_20006 ?_
              refine kv_goto dX12_sum_76 80 (by decide) ?_
              refine kv_istore_n (ls2 := [_, _]) dX12_sum_80 rfl rfl rfl rfl ?_
              refine kv_goto dX12_sum_81 36 (by decide) ?_
              refine KV.loc (ih (by omega) t _ _ hlt x4 htl (Or.inr rfl) (by omega) ?_) (ksS rfl (ksS rfl ksN))
              rw [show 60 - (i + 1 + 1) = m by omega]
              exact hR2
          · have hfin : (Except.ok t : KPt) = RES := by
              rw [← hRk]
              exact (kpLp_no (kpLv_3 (fun q => hM1 ((kpAt_1 (g := g) (s := t) (i := 12) (c := 43) (by decide +kernel) (by decide +kernel) (by unfold kpSn; decide)).mpr q)) (fun q => hM ((kpAt_1 (g := g) (s := t) (i := 9) (c := 45) (by decide +kernel) (by decide +kernel) (by unfold kpSn; decide)).mpr q)))).symm
            refine kw_Vi [_] mX12_takes dX12_sum_67 lX12_214 wX12_takes kC12 hv3 rfl (by first | rfl | assumption) rfl rfl rfl (qX12_takes_n mx hzs (i := 9) (by decide) hM) (by omega) ?_
            refine kv_if_eq dX12_sum_70 79 (by decide) (fun h8 => ?_) (fun h8 => ?_)
            · refine kv_iconst dX12_sum_79 0 ki_0 ?_
              refine kv_istore_n (ls2 := [_, _]) dX12_sum_80 rfl rfl rfl rfl ?_
              refine kv_goto dX12_sum_81 36 (by decide) ?_
              refine kv_iload_n dX12_sum_36 rfl ?_
              refine kv_if_le dX12_sum_37 84 (by decide) (fun h9 => ?_) (fun h9 => ?_)
              · exact kv_vret dX12_sum_84 rfl (by rw [← hfin]; exact ⟨rfl, x3⟩)
              · exact absurd h9 (by decide)
            · exact absurd h8 (by decide)
        · exact absurd h6 (by decide)

set_option maxRecDepth 20000 in
set_option maxHeartbeats 4000000 in
theorem qX12_sum_s {w : KW} {l : Launch} {u : KMem} {g : Nat → Int32} {use : Nat} (mx : kpMx u g use) {D op : Nat} (hop : op ≤ 5) (hL : ∀ (s : KPs) (v : KMem), kpMs u g op s v → KC w l mX12_term (D + 10) 0 0 [.ref 413] v (fun q z => q = none ∧ kpMr u g op ((kpPr (kpB g) (kN g 5) use D 4 op) s) z)) {v : KMem} {s : KPs} (hX : kpMs u g op s v) : KC w l mX12_sum (D + 11) 0 0 [.ref 413] v (fun q z => q = none ∧ kpMr u g op (kpPr (kpB g) (kN g 5) use (D + 1) 3 op s) z) := by
  have hu := mx.wd
  have eg := mx.eg
  have hg := mx.hg
  have hw5 := hg.cnt (k := 5) rfl
  obtain ⟨E, g10, g6, g7, g9, gc, gs, hp, hsl⟩ := id hX
  have mv := mx.of E
  have hv := mv.wd
  have egv := mv.eg
  have hte := kpTe_le (B := kpB g) hp
  refine KC.of (ls := [_, _]) rfl rfl (Nat.le_of_ble_eq_true rfl) ?_
  refine kv_aload_n dX12_sum_0 rfl ?_
  refine kw_VQ [] mX12_term dX12_sum_1 lX12_243 wX12_term kC12 hv rfl (by first | rfl | assumption) rfl rfl rfl (hL _ _ hX) (by omega) (fun _ v1 q1 => ?_)
  obtain ⟨rfl, x1⟩ := q1
  have hv1 := x1.e.wd mx.wd
  obtain ⟨RES, hRk⟩ : ∃ RES : KPt, kpBd ((kpPr (kpB g) (kN g 5) use D 4 op) s) (kpLp (kpB g) (kN g 5) (kpPr (kpB g) (kN g 5) use D 4 op) 3 60) = RES := ⟨_, rfl⟩
  rw [show kpPr (kpB g) (kN g 5) use (D + 1) 3 op s = RES from hRk]
  refine kv_aload_n dX12_sum_4 rfl ?_
  refine kv_ldcS (i := 12) dX12_sum_5 rfl rfl rfl ?_
  rcases hrk : (kpPr (kpB g) (kN g 5) use D 4 op) s with f | t
  · rw [hrk] at x1 hRk
    have hfin : (Except.error f : KPt) = RES := hRk
    have hze : kpMe u f _ := x1
    refine kw_Vi [_] mX12_takes dX12_sum_7 lX12_214 wX12_takes kC12 hv1 rfl (by first | rfl | assumption) rfl rfl rfl (qX12_takes_e mx hze (i := 12) (by decide)) (by omega) ?_
    refine kv_if_eq dX12_sum_10 19 (by decide) (fun h1 => ?_) (fun h1 => ?_)
    · refine kv_aload_n dX12_sum_19 rfl ?_
      refine kv_ldcS (i := 9) dX12_sum_20 rfl rfl rfl ?_
      refine kw_Vi [_] mX12_takes dX12_sum_22 lX12_214 wX12_takes kC12 hv1 rfl (by first | rfl | assumption) rfl rfl rfl (qX12_takes_e mx hze (i := 9) (by decide)) (by omega) ?_
      refine kv_if_eq dX12_sum_25 34 (by decide) (fun h2 => ?_) (fun h2 => ?_)
      · refine kv_iconst dX12_sum_34 0 ki_0 ?_
        refine kv_istore_n (ls2 := [_, _]) dX12_sum_35 rfl rfl rfl rfl ?_
        refine kv_iload_n dX12_sum_36 rfl ?_
        refine kv_if_le dX12_sum_37 84 (by decide) (fun h3 => ?_) (fun h3 => ?_)
        · exact kv_vret dX12_sum_84 rfl (by rw [← hfin]; exact ⟨rfl, x1⟩)
        · exact absurd h3 (by decide)
      · exact absurd h2 (by decide)
    · exact absurd h1 (by decide)
  · have hgo := trivial
    rw [hrk] at x1 hRk
    have hzs : kpMs u g op t _ := x1
    obtain ⟨-, -, -, -, -, -, -, -, htl⟩ := id hzs
    by_cases hM : kpAt g t 12
    · have hw : kpWo (kpB g) (kN g 5) t.1 = 43 := (kpAt_1 (g := g) (s := t) (i := 12) (c := 43) (by decide +kernel) (by decide +kernel) (by unfold kpSn; decide)).mp hM
      have hlt : t.1 < kN g 5 := ((kpWo_is (by unfold kpSn; decide)).mp hw).1
      have hlv : kpLv (kpWo (kpB g) (kN g 5) t.1) = nI 3 := by rw [hw]; decide
      have hsg : kpSg (kpWo (kpB g) (kN g 5) t.1) = 20005 := by rw [hw]; decide
      have hR2 : kpBd (kpBd ((kpPr (kpB g) (kN g 5) use D 4 op) (kpNx (kpB g) (kN g 5) t.1, t.2)) (kpPu 20005)) (kpLp (kpB g) (kN g 5) (kpPr (kpB g) (kN g 5) use D 4 op) 3 59) = RES := by
        rw [← hRk, ← hsg]
        exact (kpLp_y hlv).symm
      refine kw_VQ [_] mX12_takes dX12_sum_7 lX12_214 wX12_takes kC12 hv1 rfl (by first | rfl | assumption) rfl rfl rfl (qX12_takes_y mx hzs (i := 12) (by decide) hM hlt) (by omega) (fun _ v4 q4 => ?_)
      obtain ⟨rfl, x4⟩ := q4
      have hv4 := x4.1.wd mx.wd
      refine kv_if_eq dX12_sum_10 19 (by decide) (fun h4 => ?_) (fun h4 => ?_)
      · exact absurd h4 (by decide)
      · refine kv_sipush dX12_sum_13 20005 kz_20005 ?_
        refine kv_goto dX12_sum_16 35 (by decide) ?_
        refine kv_istore_n (ls2 := [_, _]) dX12_sum_35 rfl rfl rfl rfl ?_
        exact KV.loc (qX12_sum_l mx hop hL hlt x4 htl (Or.inl rfl) hR2) (ksS rfl (ksS rfl ksN))
    · have hM1 := hM
      clear hM
      refine kw_Vi [_] mX12_takes dX12_sum_7 lX12_214 wX12_takes kC12 hv1 rfl (by first | rfl | assumption) rfl rfl rfl (qX12_takes_n mx hzs (i := 12) (by decide) hM1) (by omega) ?_
      refine kv_if_eq dX12_sum_10 19 (by decide) (fun h5 => ?_) (fun h5 => ?_)
      · refine kv_aload_n dX12_sum_19 rfl ?_
        refine kv_ldcS (i := 9) dX12_sum_20 rfl rfl rfl ?_
        by_cases hM : kpAt g t 9
        · have hw : kpWo (kpB g) (kN g 5) t.1 = 45 := (kpAt_1 (g := g) (s := t) (i := 9) (c := 45) (by decide +kernel) (by decide +kernel) (by unfold kpSn; decide)).mp hM
          have hlt : t.1 < kN g 5 := ((kpWo_is (by unfold kpSn; decide)).mp hw).1
          have hlv : kpLv (kpWo (kpB g) (kN g 5) t.1) = nI 3 := by rw [hw]; decide
          have hsg : kpSg (kpWo (kpB g) (kN g 5) t.1) = 20006 := by rw [hw]; decide
          have hR2 : kpBd (kpBd ((kpPr (kpB g) (kN g 5) use D 4 op) (kpNx (kpB g) (kN g 5) t.1, t.2)) (kpPu 20006)) (kpLp (kpB g) (kN g 5) (kpPr (kpB g) (kN g 5) use D 4 op) 3 59) = RES := by
            rw [← hRk, ← hsg]
            exact (kpLp_y hlv).symm
          refine kw_VQ [_] mX12_takes dX12_sum_22 lX12_214 wX12_takes kC12 hv1 rfl (by first | rfl | assumption) rfl rfl rfl (qX12_takes_y mx hzs (i := 9) (by decide) hM hlt) (by omega) (fun _ v4 q4 => ?_)
          obtain ⟨rfl, x4⟩ := q4
          have hv4 := x4.1.wd mx.wd
          refine kv_if_eq dX12_sum_25 34 (by decide) (fun h6 => ?_) (fun h6 => ?_)
          · exact absurd h6 (by decide)
          · refine kv_sipush dX12_sum_28 20006 kz_20006 ?_
            refine kv_goto dX12_sum_31 35 (by decide) ?_
            refine kv_istore_n (ls2 := [_, _]) dX12_sum_35 rfl rfl rfl rfl ?_
            exact KV.loc (qX12_sum_l mx hop hL hlt x4 htl (Or.inr rfl) hR2) (ksS rfl (ksS rfl ksN))
        · have hfin : (Except.ok t : KPt) = RES := by
            rw [← hRk]
            exact (kpLp_no (kpLv_3 (fun q => hM1 ((kpAt_1 (g := g) (s := t) (i := 12) (c := 43) (by decide +kernel) (by decide +kernel) (by unfold kpSn; decide)).mpr q)) (fun q => hM ((kpAt_1 (g := g) (s := t) (i := 9) (c := 45) (by decide +kernel) (by decide +kernel) (by unfold kpSn; decide)).mpr q)))).symm
          refine kw_Vi [_] mX12_takes dX12_sum_22 lX12_214 wX12_takes kC12 hv1 rfl (by first | rfl | assumption) rfl rfl rfl (qX12_takes_n mx hzs (i := 9) (by decide) hM) (by omega) ?_
          refine kv_if_eq dX12_sum_25 34 (by decide) (fun h7 => ?_) (fun h7 => ?_)
          · refine kv_iconst dX12_sum_34 0 ki_0 ?_
            refine kv_istore_n (ls2 := [_, _]) dX12_sum_35 rfl rfl rfl rfl ?_
            refine kv_iload_n dX12_sum_36 rfl ?_
            refine kv_if_le dX12_sum_37 84 (by decide) (fun h8 => ?_) (fun h8 => ?_)
            · exact kv_vret dX12_sum_84 rfl (by rw [← hfin]; exact ⟨rfl, x1⟩)
            · exact absurd h8 (by decide)
          · exact absurd h7 (by decide)
      · exact absurd h5 (by decide)

set_option maxRecDepth 20000 in
set_option maxHeartbeats 4000000 in
theorem qX12_term_l {w : KW} {l : Launch} {u : KMem} {g : Nat → Int32} {use : Nat} (mx : kpMx u g use) {D op : Nat} (hop : op ≤ 5) (hL : ∀ (s : KPs) (v : KMem), kpMs u g op s v → KC w l mX12_one (D + 10) 0 0 [.ref 413] v (fun q z => q = none ∧ kpMr u g op ((kpPr (kpB g) (kN g 5) use D 5 op) s) z)) {RES : KPt} {s : KPs} {x : Int32} {z : KMem} (hls : s.1 < kN g 5) (hz : kpMs u g op (kpNx (kpB g) (kN g 5) s.1, s.2) z) (hsl : s.2.length ≤ s.1) (hx : x = 20007 ∨ x = 20008) (hRk : kpBd (kpBd ((kpPr (kpB g) (kN g 5) use D 5 op) (kpNx (kpB g) (kN g 5) s.1, s.2)) (kpPu x)) (kpLp (kpB g) (kN g 5) (kpPr (kpB g) (kN g 5) use D 5 op) 4 59) = RES) : KV w l mX12_term (D + 11) 0 0 36 [some (.ref 413), some (.int x)] [] z (fun q z => q = none ∧ kpMr u g op RES z) := by
  have hg := mx.hg
  have hw5 := hg.cnt (k := 5) rfl
  refine (kn_loop (P := fun i => i ≤ 60 → ∀ (s : KPs) (x : Int32) (z : KMem), s.1 < kN g 5 → kpMs u g op (kpNx (kpB g) (kN g 5) s.1, s.2) z → s.2.length ≤ s.1 → (x = 20007 ∨ x = 20008) → 60 ≤ s.1 + (60 - i) → kpBd (kpBd ((kpPr (kpB g) (kN g 5) use D 5 op) (kpNx (kpB g) (kN g 5) s.1, s.2)) (kpPu x)) (kpLp (kpB g) (kN g 5) (kpPr (kpB g) (kN g 5) use D 5 op) 4 (60 - (i + 1))) = RES → KV w l mX12_term (D + 11) 0 0 36 [some (.ref 413), some (.int x)] [] z (fun q z => q = none ∧ kpMr u g op RES z)) 61 (fun h => absurd h (by omega)) (fun i hi ih => ?_)) (by omega) s x z hls hz hsl hx (by omega) hRk
  clear hRk hz hx hsl hls
  intro h60 s x z hls hz hsl hx hm hRk
  have hvz := hz.1.wd mx.wd
  refine kv_iload_n dX12_term_36 rfl ?_
  refine kv_if_le dX12_term_37 84 (by decide) (fun h1 => ?_) (fun h1 => ?_)
  · exact absurd h1 (by rcases hx with rfl | rfl <;> decide)
  · refine kv_aload_n dX12_term_40 rfl ?_
    refine kw_VQ [] mX12_one dX12_term_41 lX12_250 wX12_one kC12 hvz rfl (by first | rfl | assumption) rfl rfl rfl (hL _ _ hz) (by omega) (fun _ v2 q2 => ?_)
    obtain ⟨rfl, x2⟩ := q2
    have hv2 := x2.e.wd mx.wd
    refine kv_aload_n dX12_term_44 rfl ?_
    refine kv_iload_n dX12_term_45 rfl ?_
    refine kw_VQ [_] mX12_codes dX12_term_46 lX12_225 wX12_codes kC12 hv2 rfl (by first | rfl | assumption) rfl rfl rfl (qX12_codes mx x2 x (fun s5 q => kpSl (fun i hi => mx.hg.2.2.2.2.2.2.2.2 i hi) hls hsl q)) (by omega) (fun _ v3 q3 => ?_)
    obtain ⟨rfl, x3⟩ := q3
    have hv3 := x3.e.wd mx.wd
    refine kv_aload_n dX12_term_49 rfl ?_
    refine kv_ldcS (i := 10) dX12_term_50 rfl rfl rfl ?_
    rcases hrk : kpBd ((kpPr (kpB g) (kN g 5) use D 5 op) (kpNx (kpB g) (kN g 5) s.1, s.2)) (kpPu x) with f | t
    · rw [hrk] at x3 hRk
      have hfin : (Except.error f : KPt) = RES := hRk
      have hze : kpMe u f _ := x3
      refine kw_Vi [_] mX12_takes dX12_term_52 lX12_214 wX12_takes kC12 hv3 rfl (by first | rfl | assumption) rfl rfl rfl (qX12_takes_e mx hze (i := 10) (by decide)) (by omega) ?_
      refine kv_if_eq dX12_term_55 64 (by decide) (fun h2 => ?_) (fun h2 => ?_)
      · refine kv_aload_n dX12_term_64 rfl ?_
        refine kv_ldcS (i := 11) dX12_term_65 rfl rfl rfl ?_
        refine kw_Vi [_] mX12_takes dX12_term_67 lX12_214 wX12_takes kC12 hv3 rfl (by first | rfl | assumption) rfl rfl rfl (qX12_takes_e mx hze (i := 11) (by decide)) (by omega) ?_
        refine kv_if_eq dX12_term_70 79 (by decide) (fun h3 => ?_) (fun h3 => ?_)
        · refine kv_iconst dX12_term_79 0 ki_0 ?_
          refine kv_istore_n (ls2 := [_, _]) dX12_term_80 rfl rfl rfl rfl ?_
          refine kv_goto dX12_term_81 36 (by decide) ?_
          refine kv_iload_n dX12_term_36 rfl ?_
          refine kv_if_le dX12_term_37 84 (by decide) (fun h4 => ?_) (fun h4 => ?_)
          · exact kv_vret dX12_term_84 rfl (by rw [← hfin]; exact ⟨rfl, x3⟩)
          · exact absurd h4 (by decide)
        · exact absurd h3 (by decide)
      · exact absurd h2 (by decide)
    · have hgo := kpGo (B := kpB g) (fun i hi => mx.hg.2.2.2.2.2.2.2.2 i hi) hls hsl hrk
      have hgt := hgo.1
      rw [hrk] at x3 hRk
      have hzs : kpMs u g op t _ := x3
      obtain ⟨-, -, -, -, -, -, -, -, htl⟩ := id hzs
      by_cases hM : kpAt g t 10
      · have hw : kpWo (kpB g) (kN g 5) t.1 = 42 := (kpAt_1 (g := g) (s := t) (i := 10) (c := 42) (by decide +kernel) (by decide +kernel) (by unfold kpSn; decide)).mp hM
        have hlt : t.1 < kN g 5 := ((kpWo_is (by unfold kpSn; decide)).mp hw).1
        have hlv : kpLv (kpWo (kpB g) (kN g 5) t.1) = nI 4 := by rw [hw]; decide
        have hsg : kpSg (kpWo (kpB g) (kN g 5) t.1) = 20007 := by rw [hw]; decide
        obtain ⟨m, em⟩ : ∃ m, 60 - (i + 1) = m + 1 := ⟨60 - (i + 1) - 1, by omega⟩
        have hR2 : kpBd (kpBd ((kpPr (kpB g) (kN g 5) use D 5 op) (kpNx (kpB g) (kN g 5) t.1, t.2)) (kpPu 20007)) (kpLp (kpB g) (kN g 5) (kpPr (kpB g) (kN g 5) use D 5 op) 4 m) = RES := by
          rw [← hRk, ← hsg]
          rw [em]
          exact (kpLp_y hlv).symm
        refine kw_VQ [_] mX12_takes dX12_term_52 lX12_214 wX12_takes kC12 hv3 rfl (by first | rfl | assumption) rfl rfl rfl (qX12_takes_y mx hzs (i := 10) (by decide) hM hlt) (by omega) (fun _ v4 q4 => ?_)
        obtain ⟨rfl, x4⟩ := q4
        have hv4 := x4.1.wd mx.wd
        refine kv_if_eq dX12_term_55 64 (by decide) (fun h5 => ?_) (fun h5 => ?_)
        · exact absurd h5 (by decide)
        · refine kv_sipush dX12_term_58 20007 kz_20007 ?_
          refine kv_goto dX12_term_61 80 (by decide) ?_
          refine kv_istore_n (ls2 := [_, _]) dX12_term_80 rfl rfl rfl rfl ?_
          refine kv_goto dX12_term_81 36 (by decide) ?_
          refine KV.loc (ih (by omega) t _ _ hlt x4 htl (Or.inl rfl) (by omega) ?_) (ksS rfl (ksS rfl ksN))
          rw [show 60 - (i + 1 + 1) = m by omega]
          exact hR2
      · have hM1 := hM
        clear hM
        refine kw_Vi [_] mX12_takes dX12_term_52 lX12_214 wX12_takes kC12 hv3 rfl (by first | rfl | assumption) rfl rfl rfl (qX12_takes_n mx hzs (i := 10) (by decide) hM1) (by omega) ?_
        refine kv_if_eq dX12_term_55 64 (by decide) (fun h6 => ?_) (fun h6 => ?_)
        · refine kv_aload_n dX12_term_64 rfl ?_
          refine kv_ldcS (i := 11) dX12_term_65 rfl rfl rfl ?_
          by_cases hM : kpAt g t 11
          · have hw : kpWo (kpB g) (kN g 5) t.1 = 47 := (kpAt_1 (g := g) (s := t) (i := 11) (c := 47) (by decide +kernel) (by decide +kernel) (by unfold kpSn; decide)).mp hM
            have hlt : t.1 < kN g 5 := ((kpWo_is (by unfold kpSn; decide)).mp hw).1
            have hlv : kpLv (kpWo (kpB g) (kN g 5) t.1) = nI 4 := by rw [hw]; decide
            have hsg : kpSg (kpWo (kpB g) (kN g 5) t.1) = 20008 := by rw [hw]; decide
            obtain ⟨m, em⟩ : ∃ m, 60 - (i + 1) = m + 1 := ⟨60 - (i + 1) - 1, by omega⟩
            have hR2 : kpBd (kpBd ((kpPr (kpB g) (kN g 5) use D 5 op) (kpNx (kpB g) (kN g 5) t.1, t.2)) (kpPu 20008)) (kpLp (kpB g) (kN g 5) (kpPr (kpB g) (kN g 5) use D 5 op) 4 m) = RES := by
              rw [← hRk, ← hsg]
              rw [em]
              exact (kpLp_y hlv).symm
            refine kw_VQ [_] mX12_takes dX12_term_67 lX12_214 wX12_takes kC12 hv3 rfl (by first | rfl | assumption) rfl rfl rfl (qX12_takes_y mx hzs (i := 11) (by decide) hM hlt) (by omega) (fun _ v4 q4 => ?_)
            obtain ⟨rfl, x4⟩ := q4
            have hv4 := x4.1.wd mx.wd
            refine kv_if_eq dX12_term_70 79 (by decide) (fun h7 => ?_) (fun h7 => ?_)
            · exact absurd h7 (by decide)
            · refine kv_sipush dX12_term_73 20008 kz_20008 ?_
              refine kv_goto dX12_term_76 80 (by decide) ?_
              refine kv_istore_n (ls2 := [_, _]) dX12_term_80 rfl rfl rfl rfl ?_
              refine kv_goto dX12_term_81 36 (by decide) ?_
              refine KV.loc (ih (by omega) t _ _ hlt x4 htl (Or.inr rfl) (by omega) ?_) (ksS rfl (ksS rfl ksN))
              rw [show 60 - (i + 1 + 1) = m by omega]
              exact hR2
          · have hfin : (Except.ok t : KPt) = RES := by
              rw [← hRk]
              exact (kpLp_no (kpLv_4 (fun q => hM1 ((kpAt_1 (g := g) (s := t) (i := 10) (c := 42) (by decide +kernel) (by decide +kernel) (by unfold kpSn; decide)).mpr q)) (fun q => hM ((kpAt_1 (g := g) (s := t) (i := 11) (c := 47) (by decide +kernel) (by decide +kernel) (by unfold kpSn; decide)).mpr q)))).symm
            refine kw_Vi [_] mX12_takes dX12_term_67 lX12_214 wX12_takes kC12 hv3 rfl (by first | rfl | assumption) rfl rfl rfl (qX12_takes_n mx hzs (i := 11) (by decide) hM) (by omega) ?_
            refine kv_if_eq dX12_term_70 79 (by decide) (fun h8 => ?_) (fun h8 => ?_)
            · refine kv_iconst dX12_term_79 0 ki_0 ?_
              refine kv_istore_n (ls2 := [_, _]) dX12_term_80 rfl rfl rfl rfl ?_
              refine kv_goto dX12_term_81 36 (by decide) ?_
              refine kv_iload_n dX12_term_36 rfl ?_
              refine kv_if_le dX12_term_37 84 (by decide) (fun h9 => ?_) (fun h9 => ?_)
              · exact kv_vret dX12_term_84 rfl (by rw [← hfin]; exact ⟨rfl, x3⟩)
              · exact absurd h9 (by decide)
            · exact absurd h8 (by decide)
        · exact absurd h6 (by decide)

set_option maxRecDepth 20000 in
set_option maxHeartbeats 4000000 in
theorem qX12_term_s {w : KW} {l : Launch} {u : KMem} {g : Nat → Int32} {use : Nat} (mx : kpMx u g use) {D op : Nat} (hop : op ≤ 5) (hL : ∀ (s : KPs) (v : KMem), kpMs u g op s v → KC w l mX12_one (D + 10) 0 0 [.ref 413] v (fun q z => q = none ∧ kpMr u g op ((kpPr (kpB g) (kN g 5) use D 5 op) s) z)) {v : KMem} {s : KPs} (hX : kpMs u g op s v) : KC w l mX12_term (D + 11) 0 0 [.ref 413] v (fun q z => q = none ∧ kpMr u g op (kpPr (kpB g) (kN g 5) use (D + 1) 4 op s) z) := by
  have hu := mx.wd
  have eg := mx.eg
  have hg := mx.hg
  have hw5 := hg.cnt (k := 5) rfl
  obtain ⟨E, g10, g6, g7, g9, gc, gs, hp, hsl⟩ := id hX
  have mv := mx.of E
  have hv := mv.wd
  have egv := mv.eg
  have hte := kpTe_le (B := kpB g) hp
  refine KC.of (ls := [_, _]) rfl rfl (Nat.le_of_ble_eq_true rfl) ?_
  refine kv_aload_n dX12_term_0 rfl ?_
  refine kw_VQ [] mX12_one dX12_term_1 lX12_250 wX12_one kC12 hv rfl (by first | rfl | assumption) rfl rfl rfl (hL _ _ hX) (by omega) (fun _ v1 q1 => ?_)
  obtain ⟨rfl, x1⟩ := q1
  have hv1 := x1.e.wd mx.wd
  obtain ⟨RES, hRk⟩ : ∃ RES : KPt, kpBd ((kpPr (kpB g) (kN g 5) use D 5 op) s) (kpLp (kpB g) (kN g 5) (kpPr (kpB g) (kN g 5) use D 5 op) 4 60) = RES := ⟨_, rfl⟩
  rw [show kpPr (kpB g) (kN g 5) use (D + 1) 4 op s = RES from hRk]
  refine kv_aload_n dX12_term_4 rfl ?_
  refine kv_ldcS (i := 10) dX12_term_5 rfl rfl rfl ?_
  rcases hrk : (kpPr (kpB g) (kN g 5) use D 5 op) s with f | t
  · rw [hrk] at x1 hRk
    have hfin : (Except.error f : KPt) = RES := hRk
    have hze : kpMe u f _ := x1
    refine kw_Vi [_] mX12_takes dX12_term_7 lX12_214 wX12_takes kC12 hv1 rfl (by first | rfl | assumption) rfl rfl rfl (qX12_takes_e mx hze (i := 10) (by decide)) (by omega) ?_
    refine kv_if_eq dX12_term_10 19 (by decide) (fun h1 => ?_) (fun h1 => ?_)
    · refine kv_aload_n dX12_term_19 rfl ?_
      refine kv_ldcS (i := 11) dX12_term_20 rfl rfl rfl ?_
      refine kw_Vi [_] mX12_takes dX12_term_22 lX12_214 wX12_takes kC12 hv1 rfl (by first | rfl | assumption) rfl rfl rfl (qX12_takes_e mx hze (i := 11) (by decide)) (by omega) ?_
      refine kv_if_eq dX12_term_25 34 (by decide) (fun h2 => ?_) (fun h2 => ?_)
      · refine kv_iconst dX12_term_34 0 ki_0 ?_
        refine kv_istore_n (ls2 := [_, _]) dX12_term_35 rfl rfl rfl rfl ?_
        refine kv_iload_n dX12_term_36 rfl ?_
        refine kv_if_le dX12_term_37 84 (by decide) (fun h3 => ?_) (fun h3 => ?_)
        · exact kv_vret dX12_term_84 rfl (by rw [← hfin]; exact ⟨rfl, x1⟩)
        · exact absurd h3 (by decide)
      · exact absurd h2 (by decide)
    · exact absurd h1 (by decide)
  · have hgo := trivial
    rw [hrk] at x1 hRk
    have hzs : kpMs u g op t _ := x1
    obtain ⟨-, -, -, -, -, -, -, -, htl⟩ := id hzs
    by_cases hM : kpAt g t 10
    · have hw : kpWo (kpB g) (kN g 5) t.1 = 42 := (kpAt_1 (g := g) (s := t) (i := 10) (c := 42) (by decide +kernel) (by decide +kernel) (by unfold kpSn; decide)).mp hM
      have hlt : t.1 < kN g 5 := ((kpWo_is (by unfold kpSn; decide)).mp hw).1
      have hlv : kpLv (kpWo (kpB g) (kN g 5) t.1) = nI 4 := by rw [hw]; decide
      have hsg : kpSg (kpWo (kpB g) (kN g 5) t.1) = 20007 := by rw [hw]; decide
      have hR2 : kpBd (kpBd ((kpPr (kpB g) (kN g 5) use D 5 op) (kpNx (kpB g) (kN g 5) t.1, t.2)) (kpPu 20007)) (kpLp (kpB g) (kN g 5) (kpPr (kpB g) (kN g 5) use D 5 op) 4 59) = RES := by
        rw [← hRk, ← hsg]
        exact (kpLp_y hlv).symm
      refine kw_VQ [_] mX12_takes dX12_term_7 lX12_214 wX12_takes kC12 hv1 rfl (by first | rfl | assumption) rfl rfl rfl (qX12_takes_y mx hzs (i := 10) (by decide) hM hlt) (by omega) (fun _ v4 q4 => ?_)
      obtain ⟨rfl, x4⟩ := q4
      have hv4 := x4.1.wd mx.wd
      refine kv_if_eq dX12_term_10 19 (by decide) (fun h4 => ?_) (fun h4 => ?_)
      · exact absurd h4 (by decide)
      · refine kv_sipush dX12_term_13 20007 kz_20007 ?_
        refine kv_goto dX12_term_16 35 (by decide) ?_
        refine kv_istore_n (ls2 := [_, _]) dX12_term_35 rfl rfl rfl rfl ?_
        exact KV.loc (qX12_term_l mx hop hL hlt x4 htl (Or.inl rfl) hR2) (ksS rfl (ksS rfl ksN))
    · have hM1 := hM
      clear hM
      refine kw_Vi [_] mX12_takes dX12_term_7 lX12_214 wX12_takes kC12 hv1 rfl (by first | rfl | assumption) rfl rfl rfl (qX12_takes_n mx hzs (i := 10) (by decide) hM1) (by omega) ?_
      refine kv_if_eq dX12_term_10 19 (by decide) (fun h5 => ?_) (fun h5 => ?_)
      · refine kv_aload_n dX12_term_19 rfl ?_
        refine kv_ldcS (i := 11) dX12_term_20 rfl rfl rfl ?_
        by_cases hM : kpAt g t 11
        · have hw : kpWo (kpB g) (kN g 5) t.1 = 47 := (kpAt_1 (g := g) (s := t) (i := 11) (c := 47) (by decide +kernel) (by decide +kernel) (by unfold kpSn; decide)).mp hM
          have hlt : t.1 < kN g 5 := ((kpWo_is (by unfold kpSn; decide)).mp hw).1
          have hlv : kpLv (kpWo (kpB g) (kN g 5) t.1) = nI 4 := by rw [hw]; decide
          have hsg : kpSg (kpWo (kpB g) (kN g 5) t.1) = 20008 := by rw [hw]; decide
          have hR2 : kpBd (kpBd ((kpPr (kpB g) (kN g 5) use D 5 op) (kpNx (kpB g) (kN g 5) t.1, t.2)) (kpPu 20008)) (kpLp (kpB g) (kN g 5) (kpPr (kpB g) (kN g 5) use D 5 op) 4 59) = RES := by
            rw [← hRk, ← hsg]
            exact (kpLp_y hlv).symm
          refine kw_VQ [_] mX12_takes dX12_term_22 lX12_214 wX12_takes kC12 hv1 rfl (by first | rfl | assumption) rfl rfl rfl (qX12_takes_y mx hzs (i := 11) (by decide) hM hlt) (by omega) (fun _ v4 q4 => ?_)
          obtain ⟨rfl, x4⟩ := q4
          have hv4 := x4.1.wd mx.wd
          refine kv_if_eq dX12_term_25 34 (by decide) (fun h6 => ?_) (fun h6 => ?_)
          · exact absurd h6 (by decide)
          · refine kv_sipush dX12_term_28 20008 kz_20008 ?_
            refine kv_goto dX12_term_31 35 (by decide) ?_
            refine kv_istore_n (ls2 := [_, _]) dX12_term_35 rfl rfl rfl rfl ?_
            exact KV.loc (qX12_term_l mx hop hL hlt x4 htl (Or.inr rfl) hR2) (ksS rfl (ksS rfl ksN))
        · have hfin : (Except.ok t : KPt) = RES := by
            rw [← hRk]
            exact (kpLp_no (kpLv_4 (fun q => hM1 ((kpAt_1 (g := g) (s := t) (i := 10) (c := 42) (by decide +kernel) (by decide +kernel) (by unfold kpSn; decide)).mpr q)) (fun q => hM ((kpAt_1 (g := g) (s := t) (i := 11) (c := 47) (by decide +kernel) (by decide +kernel) (by unfold kpSn; decide)).mpr q)))).symm
          refine kw_Vi [_] mX12_takes dX12_term_22 lX12_214 wX12_takes kC12 hv1 rfl (by first | rfl | assumption) rfl rfl rfl (qX12_takes_n mx hzs (i := 11) (by decide) hM) (by omega) ?_
          refine kv_if_eq dX12_term_25 34 (by decide) (fun h7 => ?_) (fun h7 => ?_)
          · refine kv_iconst dX12_term_34 0 ki_0 ?_
            refine kv_istore_n (ls2 := [_, _]) dX12_term_35 rfl rfl rfl rfl ?_
            refine kv_iload_n dX12_term_36 rfl ?_
            refine kv_if_le dX12_term_37 84 (by decide) (fun h8 => ?_) (fun h8 => ?_)
            · exact kv_vret dX12_term_84 rfl (by rw [← hfin]; exact ⟨rfl, x1⟩)
            · exact absurd h8 (by decide)
          · exact absurd h7 (by decide)
      · exact absurd h5 (by decide)

set_option maxRecDepth 20000 in
set_option maxHeartbeats 4000000 in
theorem qX12_compared_s {w : KW} {l : Launch} {u : KMem} {g : Nat → Int32} {use : Nat} (mx : kpMx u g use) {D op : Nat} (hop : op ≤ 5) (hL : ∀ (s : KPs) (v : KMem), kpMs u g op s v → KC w l mX12_sum (D + 10) 0 0 [.ref 413] v (fun q z => q = none ∧ kpMr u g op ((kpPr (kpB g) (kN g 5) use D 3 op) s) z)) {v : KMem} {s : KPs} (hX : kpMs u g op s v) : KC w l mX12_compared (D + 11) 0 0 [.ref 413] v (fun q z => q = none ∧ kpMr u g op (kpPr (kpB g) (kN g 5) use (D + 1) 2 op s) z) := by
  have hu := mx.wd
  have eg := mx.eg
  have hg := mx.hg
  have hw5 := hg.cnt (k := 5) rfl
  obtain ⟨E, g10, g6, g7, g9, gc, gs, hp, hsl⟩ := id hX
  have mv := mx.of E
  have hv := mv.wd
  have egv := mv.eg
  have hte := kpTe_le (B := kpB g) hp
  refine KC.of (ls := [_, _]) rfl rfl (Nat.le_of_ble_eq_true rfl) ?_
  refine kv_aload_n dX12_compared_0 rfl ?_
  refine kw_VQ [] mX12_sum dX12_compared_1 lX12_234 wX12_sum kC12 hv rfl (by first | rfl | assumption) rfl rfl rfl (hL _ _ hX) (by omega) (fun _ v1 q1 => ?_)
  obtain ⟨rfl, x1⟩ := q1
  have hv1 := x1.e.wd mx.wd
  obtain ⟨RES, hRk⟩ : ∃ RES : KPt, kpBd ((kpPr (kpB g) (kN g 5) use D 3 op) s) (kpLp (kpB g) (kN g 5) (kpPr (kpB g) (kN g 5) use D 3 op) 2 1) = RES := ⟨_, rfl⟩
  rw [show kpPr (kpB g) (kN g 5) use (D + 1) 2 op s = RES from hRk]
  refine kv_aload_n dX12_compared_4 rfl ?_
  refine kv_ldcS (i := 13) dX12_compared_5 rfl rfl rfl ?_
  rcases hrk : (kpPr (kpB g) (kN g 5) use D 3 op) s with f | t
  · rw [hrk] at x1 hRk
    have hfin : (Except.error f : KPt) = RES := hRk
    have hze : kpMe u f _ := x1
    refine kw_Vi [_] mX12_takes dX12_compared_7 lX12_214 wX12_takes kC12 hv1 rfl (by first | rfl | assumption) rfl rfl rfl (qX12_takes_e mx hze (i := 13) (by decide)) (by omega) ?_
    refine kv_if_eq dX12_compared_10 19 (by decide) (fun h1 => ?_) (fun h1 => ?_)
    · refine kv_aload_n dX12_compared_19 rfl ?_
      refine kv_ldcS (i := 14) dX12_compared_20 rfl rfl rfl ?_
      refine kw_Vi [_] mX12_takes dX12_compared_22 lX12_214 wX12_takes kC12 hv1 rfl (by first | rfl | assumption) rfl rfl rfl (qX12_takes_e mx hze (i := 14) (by decide)) (by omega) ?_
      refine kv_if_eq dX12_compared_25 34 (by decide) (fun h2 => ?_) (fun h2 => ?_)
      · refine kv_aload_n dX12_compared_34 rfl ?_
        refine kv_ldcS (i := 15) dX12_compared_35 rfl rfl rfl ?_
        refine kw_Vi [_] mX12_takes dX12_compared_37 lX12_214 wX12_takes kC12 hv1 rfl (by first | rfl | assumption) rfl rfl rfl (qX12_takes_e mx hze (i := 15) (by decide)) (by omega) ?_
        refine kv_if_eq dX12_compared_40 49 (by decide) (fun h3 => ?_) (fun h3 => ?_)
        · refine kv_iconst dX12_compared_49 0 ki_0 ?_
          refine kv_istore_n (ls2 := [_, _]) dX12_compared_50 rfl rfl rfl rfl ?_
          refine kv_iload_n dX12_compared_51 rfl ?_
          refine kv_if_le dX12_compared_52 64 (by decide) (fun h4 => ?_) (fun h4 => ?_)
          · exact kv_vret dX12_compared_64 rfl (by rw [← hfin]; exact ⟨rfl, x1⟩)
          · exact absurd h4 (by decide)
        · exact absurd h3 (by decide)
      · exact absurd h2 (by decide)
    · exact absurd h1 (by decide)
  · rw [hrk] at x1 hRk
    have hzs : kpMs u g op t _ := x1
    obtain ⟨-, -, -, -, -, -, -, -, htl⟩ := id hzs
    by_cases hM : kpAt g t 13
    · have hw : kpWo (kpB g) (kN g 5) t.1 = 60 := (kpAt_1 (g := g) (s := t) (i := 13) (c := 60) (by decide +kernel) (by decide +kernel) (by unfold kpSn; decide)).mp hM
      have hlt : t.1 < kN g 5 := ((kpWo_is (by unfold kpSn; decide)).mp hw).1
      have hlv : kpLv (kpWo (kpB g) (kN g 5) t.1) = nI 2 := by rw [hw]; decide
      have hsg : kpSg (kpWo (kpB g) (kN g 5) t.1) = 20002 := by rw [hw]; decide
      have hfin : kpBd ((kpPr (kpB g) (kN g 5) use D 3 op) (kpNx (kpB g) (kN g 5) t.1, t.2)) (kpPu 20002) = RES := by
        rw [← hRk, ← hsg]
        exact (kpLp_z _).symm.trans (kpLp_y hlv).symm
      refine kw_VQ [_] mX12_takes dX12_compared_7 lX12_214 wX12_takes kC12 hv1 rfl (by first | rfl | assumption) rfl rfl rfl (qX12_takes_y mx hzs (i := 13) (by decide) hM hlt) (by omega) (fun _ v4 q4 => ?_)
      obtain ⟨rfl, x4⟩ := q4
      have hv4 := x4.1.wd mx.wd
      refine kv_if_eq dX12_compared_10 19 (by decide) (fun h5 => ?_) (fun h5 => ?_)
      · exact absurd h5 (by decide)
      · refine kv_sipush dX12_compared_13 20002 kz_20002 ?_
        refine kv_goto dX12_compared_16 50 (by decide) ?_
        refine kv_istore_n (ls2 := [_, _]) dX12_compared_50 rfl rfl rfl rfl ?_
        refine kv_iload_n dX12_compared_51 rfl ?_
        refine kv_if_le dX12_compared_52 64 (by decide) (fun h6 => ?_) (fun h6 => ?_)
        · exact absurd h6 (by decide)
        · refine kv_aload_n dX12_compared_55 rfl ?_
          refine kw_VQ [] mX12_sum dX12_compared_56 lX12_234 wX12_sum kC12 hv4 rfl (by first | rfl | assumption) rfl rfl rfl (hL _ _ x4) (by omega) (fun _ v2 q2 => ?_)
          obtain ⟨rfl, x2⟩ := q2
          have hv2 := x2.e.wd mx.wd
          refine kv_aload_n dX12_compared_59 rfl ?_
          refine kv_iload_n dX12_compared_60 rfl ?_
          refine kw_VQ [_] mX12_codes dX12_compared_61 lX12_225 wX12_codes kC12 hv2 rfl (by first | rfl | assumption) rfl rfl rfl (qX12_codes mx x2 20002 (fun s5 q => kpSl (fun i hi => mx.hg.2.2.2.2.2.2.2.2 i hi) hlt htl q)) (by omega) (fun _ v3 q3 => ?_)
          obtain ⟨rfl, x3⟩ := q3
          have hv3 := x3.e.wd mx.wd
          exact kv_vret dX12_compared_64 rfl (by rw [← hfin]; exact ⟨rfl, x3⟩)
    · have hM0 := hM
      clear hM
      refine kw_Vi [_] mX12_takes dX12_compared_7 lX12_214 wX12_takes kC12 hv1 rfl (by first | rfl | assumption) rfl rfl rfl (qX12_takes_n mx hzs (i := 13) (by decide) hM0) (by omega) ?_
      refine kv_if_eq dX12_compared_10 19 (by decide) (fun h7 => ?_) (fun h7 => ?_)
      · refine kv_aload_n dX12_compared_19 rfl ?_
        refine kv_ldcS (i := 14) dX12_compared_20 rfl rfl rfl ?_
        by_cases hM : kpAt g t 14
        · have hw : kpWo (kpB g) (kN g 5) t.1 = 61 := (kpAt_1 (g := g) (s := t) (i := 14) (c := 61) (by decide +kernel) (by decide +kernel) (by unfold kpSn; decide)).mp hM
          have hlt : t.1 < kN g 5 := ((kpWo_is (by unfold kpSn; decide)).mp hw).1
          have hlv : kpLv (kpWo (kpB g) (kN g 5) t.1) = nI 2 := by rw [hw]; decide
          have hsg : kpSg (kpWo (kpB g) (kN g 5) t.1) = 20003 := by rw [hw]; decide
          have hfin : kpBd ((kpPr (kpB g) (kN g 5) use D 3 op) (kpNx (kpB g) (kN g 5) t.1, t.2)) (kpPu 20003) = RES := by
            rw [← hRk, ← hsg]
            exact (kpLp_z _).symm.trans (kpLp_y hlv).symm
          refine kw_VQ [_] mX12_takes dX12_compared_22 lX12_214 wX12_takes kC12 hv1 rfl (by first | rfl | assumption) rfl rfl rfl (qX12_takes_y mx hzs (i := 14) (by decide) hM hlt) (by omega) (fun _ v4 q4 => ?_)
          obtain ⟨rfl, x4⟩ := q4
          have hv4 := x4.1.wd mx.wd
          refine kv_if_eq dX12_compared_25 34 (by decide) (fun h8 => ?_) (fun h8 => ?_)
          · exact absurd h8 (by decide)
          · refine kv_sipush dX12_compared_28 20003 kz_20003 ?_
            refine kv_goto dX12_compared_31 50 (by decide) ?_
            refine kv_istore_n (ls2 := [_, _]) dX12_compared_50 rfl rfl rfl rfl ?_
            refine kv_iload_n dX12_compared_51 rfl ?_
            refine kv_if_le dX12_compared_52 64 (by decide) (fun h9 => ?_) (fun h9 => ?_)
            · exact absurd h9 (by decide)
            · refine kv_aload_n dX12_compared_55 rfl ?_
              refine kw_VQ [] mX12_sum dX12_compared_56 lX12_234 wX12_sum kC12 hv4 rfl (by first | rfl | assumption) rfl rfl rfl (hL _ _ x4) (by omega) (fun _ v2 q2 => ?_)
              obtain ⟨rfl, x2⟩ := q2
              have hv2 := x2.e.wd mx.wd
              refine kv_aload_n dX12_compared_59 rfl ?_
              refine kv_iload_n dX12_compared_60 rfl ?_
              refine kw_VQ [_] mX12_codes dX12_compared_61 lX12_225 wX12_codes kC12 hv2 rfl (by first | rfl | assumption) rfl rfl rfl (qX12_codes mx x2 20003 (fun s5 q => kpSl (fun i hi => mx.hg.2.2.2.2.2.2.2.2 i hi) hlt htl q)) (by omega) (fun _ v3 q3 => ?_)
              obtain ⟨rfl, x3⟩ := q3
              have hv3 := x3.e.wd mx.wd
              exact kv_vret dX12_compared_64 rfl (by rw [← hfin]; exact ⟨rfl, x3⟩)
        · have hM1 := hM
          clear hM
          refine kw_Vi [_] mX12_takes dX12_compared_22 lX12_214 wX12_takes kC12 hv1 rfl (by first | rfl | assumption) rfl rfl rfl (qX12_takes_n mx hzs (i := 14) (by decide) hM1) (by omega) ?_
          refine kv_if_eq dX12_compared_25 34 (by decide) (fun h10 => ?_) (fun h10 => ?_)
          · refine kv_aload_n dX12_compared_34 rfl ?_
            refine kv_ldcS (i := 15) dX12_compared_35 rfl rfl rfl ?_
            by_cases hM : kpAt g t 15
            · have hw : kpWo (kpB g) (kN g 5) t.1 = 62 := (kpAt_1 (g := g) (s := t) (i := 15) (c := 62) (by decide +kernel) (by decide +kernel) (by unfold kpSn; decide)).mp hM
              have hlt : t.1 < kN g 5 := ((kpWo_is (by unfold kpSn; decide)).mp hw).1
              have hlv : kpLv (kpWo (kpB g) (kN g 5) t.1) = nI 2 := by rw [hw]; decide
              have hsg : kpSg (kpWo (kpB g) (kN g 5) t.1) = 20004 := by rw [hw]; decide
              have hfin : kpBd ((kpPr (kpB g) (kN g 5) use D 3 op) (kpNx (kpB g) (kN g 5) t.1, t.2)) (kpPu 20004) = RES := by
                rw [← hRk, ← hsg]
                exact (kpLp_z _).symm.trans (kpLp_y hlv).symm
              refine kw_VQ [_] mX12_takes dX12_compared_37 lX12_214 wX12_takes kC12 hv1 rfl (by first | rfl | assumption) rfl rfl rfl (qX12_takes_y mx hzs (i := 15) (by decide) hM hlt) (by omega) (fun _ v4 q4 => ?_)
              obtain ⟨rfl, x4⟩ := q4
              have hv4 := x4.1.wd mx.wd
              refine kv_if_eq dX12_compared_40 49 (by decide) (fun h11 => ?_) (fun h11 => ?_)
              · exact absurd h11 (by decide)
              · refine kv_sipush dX12_compared_43 20004 kz_20004 ?_
                refine kv_goto dX12_compared_46 50 (by decide) ?_
                refine kv_istore_n (ls2 := [_, _]) dX12_compared_50 rfl rfl rfl rfl ?_
                refine kv_iload_n dX12_compared_51 rfl ?_
                refine kv_if_le dX12_compared_52 64 (by decide) (fun h12 => ?_) (fun h12 => ?_)
                · exact absurd h12 (by decide)
                · refine kv_aload_n dX12_compared_55 rfl ?_
                  refine kw_VQ [] mX12_sum dX12_compared_56 lX12_234 wX12_sum kC12 hv4 rfl (by first | rfl | assumption) rfl rfl rfl (hL _ _ x4) (by omega) (fun _ v2 q2 => ?_)
                  obtain ⟨rfl, x2⟩ := q2
                  have hv2 := x2.e.wd mx.wd
                  refine kv_aload_n dX12_compared_59 rfl ?_
                  refine kv_iload_n dX12_compared_60 rfl ?_
                  refine kw_VQ [_] mX12_codes dX12_compared_61 lX12_225 wX12_codes kC12 hv2 rfl (by first | rfl | assumption) rfl rfl rfl (qX12_codes mx x2 20004 (fun s5 q => kpSl (fun i hi => mx.hg.2.2.2.2.2.2.2.2 i hi) hlt htl q)) (by omega) (fun _ v3 q3 => ?_)
                  obtain ⟨rfl, x3⟩ := q3
                  have hv3 := x3.e.wd mx.wd
                  exact kv_vret dX12_compared_64 rfl (by rw [← hfin]; exact ⟨rfl, x3⟩)
            · have hfin : (Except.ok t : KPt) = RES := by
                rw [← hRk]
                exact (kpLp_no (kpLv_2 (fun q => hM0 ((kpAt_1 (g := g) (s := t) (i := 13) (c := 60) (by decide +kernel) (by decide +kernel) (by unfold kpSn; decide)).mpr q)) (fun q => hM1 ((kpAt_1 (g := g) (s := t) (i := 14) (c := 61) (by decide +kernel) (by decide +kernel) (by unfold kpSn; decide)).mpr q)) (fun q => hM ((kpAt_1 (g := g) (s := t) (i := 15) (c := 62) (by decide +kernel) (by decide +kernel) (by unfold kpSn; decide)).mpr q)))).symm
              refine kw_Vi [_] mX12_takes dX12_compared_37 lX12_214 wX12_takes kC12 hv1 rfl (by first | rfl | assumption) rfl rfl rfl (qX12_takes_n mx hzs (i := 15) (by decide) hM) (by omega) ?_
              refine kv_if_eq dX12_compared_40 49 (by decide) (fun h13 => ?_) (fun h13 => ?_)
              · refine kv_iconst dX12_compared_49 0 ki_0 ?_
                refine kv_istore_n (ls2 := [_, _]) dX12_compared_50 rfl rfl rfl rfl ?_
                refine kv_iload_n dX12_compared_51 rfl ?_
                refine kv_if_le dX12_compared_52 64 (by decide) (fun h14 => ?_) (fun h14 => ?_)
                · exact kv_vret dX12_compared_64 rfl (by rw [← hfin]; exact ⟨rfl, x1⟩)
                · exact absurd h14 (by decide)
              · exact absurd h13 (by decide)
          · exact absurd h10 (by decide)
      · exact absurd h7 (by decide)

