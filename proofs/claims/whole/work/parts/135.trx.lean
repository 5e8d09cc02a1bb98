/-! treaty -/
theorem kWd.sr {u : KMem} (hu : kWd u) {a k : Nat} {x : Option Nat} (h : kv_rf a k = none) : kWd (kv_sr u a k x) := by
  refine ⟨hu.1, fun b j c q => ?_, hu.2.2.1, hu.2.2.2⟩
  have hne : ¬ (b = a ∧ j = k) := fun z => by rw [z.1, z.2, h] at q; exact absurd q (by simp)
  show (kv_sr u a k x).2.2.2 b j = some c
  rw [← hu.2.1 b j c q]
  unfold kv_sr
  by_cases z : b = a
  · by_cases z2 : j = k
    · exact absurd ⟨z, z2⟩ hne
    · simp [z, z2]
  · simp [z]
theorem kv_sr_s (u : KMem) (a k : Nat) (x : Option Nat) : (kv_sr u a k x).2.2.2 a k = x := by unfold kv_sr; simp
theorem kv_sr_n {u : KMem} {a k b j : Nat} {x : Option Nat} (h : ¬ (b = a ∧ j = k)) : (kv_sr u a k x).2.2.2 b j = u.2.2.2 b j := by
  unfold kv_sr
  by_cases z : b = a
  · by_cases z2 : j = k
    · exact absurd ⟨z, z2⟩ h
    · simp [z, z2]
  · simp [z]
theorem kv_sr_i (u : KMem) (a k : Nat) (x : Option Nat) : (kv_sr u a k x).2.1 = u.2.1 := rfl
section KPRh
variable {w : KW} {l : Launch} {mm : KM} {dd nc ns pc : Nat} {ls : List (Option Value)} {rest : List Value} {u : KMem} {Q : Option Value → KMem → Prop}
theorem kw_pRh {idx ci k a b n : Nat} {ty : FieldType} (d : decode mm.2.1 pc = .ok (.putfield idx, 3)) (f : kv_FL mm.1.cls idx ci k ty false) (hu : kWd u) (hs : kv_sh a = (ci, n)) (hk : Nat.blt k n = true) (hi : kv_ir ci k = true) (hn : ∀ z, narrow ty (.ref z) = .ref z) (hf : ∀ z, fits ty (.ref z) = true)
    (kk : KV w l mm dd nc ns (pc + 3) ls rest (kv_sr u a k (some b)) Q) : KV w l mm dd nc ns pc ls (.ref b :: .ref a :: rest) u Q :=
  kv_putR n d f (fun h => absurd h (by decide)) (by rw [hu.1]; exact kv_lt hs (Nat.le_of_ble_eq_true hk)) hs hk hi hn hf kk
end KPRh
def kpFin (B : Nat → Int32) (n : Nat) (r : KPt) : KPt := kpBd r (fun s => if kpWo B n s.1 = -1 then .ok s else .error s.1)
def kpAns : KPt → Int32
  | .ok _ => -1
  | .error f => nI f
def kpW (u : KMem) (t n : Nat) : KMem := kv_si (kv_si (kv_sr (kv_si (kv_sr u 388 0 (some 11)) 388 1 (nI n)) 388 2 (some (1 + (132 + 2 * t)))) 388 5 0) 388 6 (-1)
set_option maxRecDepth 20000 in
set_option maxHeartbeats 4000000 in
theorem qX9_become {w : KW} {l : Launch} {u : KMem} (hu : kWd u) {t : Nat} (ht : t < 10) (x y : Int32) : KC w l mX9_become 0 0 0 [.ref (1 + (132 + 2 * t)), .int x, .int y] u (kq none (kv_si (kv_si (kv_si u (1 + (132 + 2 * t)) 2 x) (1 + (132 + 2 * t)) 3 y) (1 + (132 + 2 * t)) 1 0)) := by
  obtain ⟨k1, k2, k3, k4⟩ := ks_treaty t ht
  refine KC.of (ls := [_, _, _]) rfl rfl (Nat.le_of_ble_eq_true rfl) ?_
  refine kv_aload_n dX9_become_0 rfl ?_
  refine kv_iload_n dX9_become_1 rfl ?_
  refine kw_pI dX9_become_2 fX9_15 hu (by first | rfl | assumption) rfl rfl ?_
  refine kv_aload_n dX9_become_5 rfl ?_
  refine kv_iload_n dX9_become_6 rfl ?_
  refine kw_pI dX9_become_7 fX9_19 hu (by first | rfl | assumption) rfl rfl ?_
  refine kv_aload_n dX9_become_10 rfl ?_
  refine kv_iconst dX9_become_11 0 ki_0 ?_
  refine kw_pI dX9_become_12 fX9_22 hu (by first | rfl | assumption) rfl rfl ?_
  exact kv_vret dX9_become_15 rfl ⟨rfl, rfl⟩

set_option maxRecDepth 20000 in
set_option maxHeartbeats 4000000 in
theorem qX5_read {w : KW} {l : Launch} {u : KMem} (hu : kWd u) {t : Nat} (ht : t < 10) {B : Nat → Int32} {n use : Nat} (hn : n ≤ 60) (hB : ∀ i, i < n → kUp (B i) 255) (fB : ∀ i, i < n → u.2.1 11 i = B i) (fu : u.2.1 (1 + (132 + 2 * t)) 2 = nI use) (hus : use < 3) (f1 : u.2.1 (1 + (132 + 2 * t)) 1 = nI 0) : KC w l mX5_read 113 0 0 [.ref 388, .ref 11, .int (nI n), .ref (1 + (132 + 2 * t))] u (fun r z => r = some (.int (kpAns (kpFin B n (kpPr B n use 36 0 0 (kpSk B n 0, []))))) ∧ kpXr (kpW u t n) t B n (kpFin B n (kpPr B n use 36 0 0 (kpSk B n 0, []))) z) := by
  obtain ⟨k1, k2, k3, k4⟩ := ks_treaty t ht
  refine KC.of (ls := [_, _, _, _]) rfl rfl (Nat.le_of_ble_eq_true rfl) ?_
  refine kv_aload_n dX5_read_0 rfl ?_
  refine kv_aload_n dX5_read_1 rfl ?_
  refine kw_pRh dX5_read_2 fX5_9 hu (by first | rfl | assumption) rfl rfl (fun _ => rfl) (fun _ => rfl) ?_
  have hu1 := hu.sr (a := 388) (k := 0) (x := some 11) (by decide)
  refine kv_aload_n dX5_read_5 rfl ?_
  refine kv_iload_n dX5_read_6 rfl ?_
  refine kv_aload_n dX5_read_7 rfl ?_
  refine kw_len (t := 0) dX5_read_8 hu1 (by first | rfl | assumption) rfl rfl ?_
  refine kw_mmin dX5_read_9 lX5_15 rfl (by omega) ?_
  rw [show (if nI 60 < nI n then nI 60 else nI n : Int32) = nI n from if_neg (fun q => absurd ((nI_ltI (by omega) (by omega)).mp q) (by omega))]
  refine kw_pI dX5_read_12 fX5_21 hu1 (by first | rfl | assumption) rfl rfl ?_
  refine kv_aload_n dX5_read_15 rfl ?_
  refine kv_aload_n dX5_read_16 rfl ?_
  refine kw_pRh dX5_read_17 fX5_25 hu1 (by first | rfl | assumption) rfl rfl (fun _ => rfl) (fun _ => rfl) ?_
  have hu2 : kWd (kv_sr (kv_si (kv_sr u 388 0 (some 11)) 388 1 (nI n)) 388 2 (some (1 + (132 + 2 * t)))) := kWd.sr (u := kv_si (kv_sr u 388 0 (some 11)) 388 1 (nI n)) hu1 (by decide)
  refine kv_aload_n dX5_read_20 rfl ?_
  refine kv_iconst dX5_read_21 0 ki_0 ?_
  refine kw_pI dX5_read_22 fX5_29 hu2 (by first | rfl | assumption) rfl rfl ?_
  refine kv_aload_n dX5_read_25 rfl ?_
  refine kv_iconst dX5_read_26 (-1) ki_m1 ?_
  refine kw_pI dX5_read_27 fX5_32 hu2 (by first | rfl | assumption) rfl rfl ?_
  refine kv_aload_n dX5_read_30 rfl ?_
  have cx : kpCx (kpW u t n) t B n use := by
    refine ⟨hu2, ht, hn, hB, ?_, ?_, ?_, fun i hi => ?_, ?_, hus⟩
    · exact (kv_sr_n (by omega)).trans (kv_sr_s u 388 0 (some 11))
    · exact kv_sr_s (kv_si (kv_sr u 388 0 (some 11)) 388 1 (nI n)) 388 2 (some (1 + (132 + 2 * t)))
    · unfold kpW; rw [kv_si_n (by omega), kv_si_n (by omega), kv_sr_i, kv_si_s]
    · unfold kpW; rw [kv_si_n (by omega), kv_si_n (by omega), kv_sr_i, kv_si_n (by omega), kv_sr_i]; exact fB i hi
    · unfold kpW; rw [kv_si_n (by omega), kv_si_n (by omega), kv_sr_i, kv_si_n (by omega), kv_sr_i]; exact fu
  have hu := cx.wd
  refine kw_VQ [] mX5_step dX5_read_31 lX5_35 wX5_step kC5 hu rfl (by first | rfl | assumption) rfl rfl rfl (qX5_step cx 0 (by omega) (by unfold kpW; rw [kv_si_n (by omega), kv_si_s]; rfl)) (by omega) (fun _ v1 q1 => ?_)
  obtain ⟨rfl, es, z4, z5, z3⟩ := q1
  have xc : kpXc (kpW u t n) t [] (kpW u t n) := ⟨kEq.rf, kv_si_s _ _ _ _, by unfold kpW; rw [kv_si_n (by omega), kv_si_n (by omega), kv_sr_i, kv_si_n (by omega), kv_sr_i]; exact f1, fun i hi => absurd hi (Nat.not_lt_zero _)⟩
  have x1 : kpXr (kpW u t n) t B n (.ok (kpSk B n 0, [])) v1 := kpXs.mk (s := (kpSk B n 0, [])) (xc.step ht es) z4 z5 z3 (kpSk_le (Nat.zero_le n)).2 (Nat.zero_le _)
  have hv1 := x1.e.wd cx.wd
  refine kv_aload_n dX5_read_34 rfl ?_
  refine kv_iconst dX5_read_35 0 ki_0 ?_
  refine kv_iconst dX5_read_36 0 ki_0 ?_
  refine kw_VQ [_, _] mX5_level dX5_read_37 lX5_38 wX5_level kC5 hv1 rfl (by first | rfl | assumption) rfl rfl rfl ((qX5_both cx 36).1 0 0 (.ok (kpSk B n 0, [])) _ (by omega) (by omega) (by omega) x1) (by omega) (fun _ v2 q2 => ?_)
  obtain ⟨rfl, x2⟩ := q2
  have hv2 := x2.e.wd cx.wd
  have x2 : kpXr (kpW u t n) t B n (kpPr B n use 36 0 0 (kpSk B n 0, [])) v2 := x2
  rcases hr_ : (kpPr B n use 36 0 0 (kpSk B n 0, [])) with f | s
  · rw [hr_] at x2
    have hF : kpFin B n (.error f) = .error f := rfl
    obtain ⟨E, g6, hf, c0, hc0, gc⟩ := id x2
    refine kv_aload_n dX5_read_40 rfl ?_
    refine kw_gI dX5_read_41 fX5_42 hv2 (by first | rfl | assumption) rfl rfl ?_
    refine kv_iconst dX5_read_44 (-1) ki_m1 ?_
    refine kv_icmp_eq dX5_read_45 52 (by decide) (fun h1 => ?_) (fun h1 => ?_)
    · have xe : kpXe (kpW u t n) t f v2 := x2
      refine kv_aload_n dX5_read_52 rfl ?_
      refine kw_gI dX5_read_53 fX5_32 hv2 (by first | rfl | assumption) rfl rfl ?_
      rw [xe.2.1]
      exact kv_iret dX5_read_56 rfl (by rw [hF]; exact ⟨rfl, xe⟩)
    · refine kv_aload_n dX5_read_48 rfl ?_
      refine kw_VQ [] mX5_fail dX5_read_49 lX5_45 wX5_fail kC5 hv2 rfl (by first | rfl | assumption) rfl rfl rfl (qX5_fail_er cx x2) (by omega) (fun _ v3 q3 => ?_)
      obtain ⟨rfl, xe⟩ := q3
      have hvs := xe.1.wd hu
      refine kv_aload_n dX5_read_52 rfl ?_
      refine kw_gI dX5_read_53 fX5_32 hvs (by first | rfl | assumption) rfl rfl ?_
      rw [xe.2.1]
      exact kv_iret dX5_read_56 rfl (by rw [hF]; exact ⟨rfl, xe⟩)
  · rw [hr_] at x2
    obtain ⟨E, g6, g4, g5, g3, gc, gs, hp, hsl⟩ := id x2
    refine kv_aload_n dX5_read_40 rfl ?_
    refine kw_gI dX5_read_41 fX5_42 hv2 (by first | rfl | assumption) rfl rfl ?_
    rw [g3]
    refine kv_iconst dX5_read_44 (-1) ki_m1 ?_
    refine kv_icmp_eq dX5_read_45 52 (by decide) (fun h2 => ?_) (fun h2 => ?_)
    · have hF : kpFin B n (.ok s) = .ok s := if_pos h2
      have xe : kpXs (kpW u t n) t B n s v2 := x2
      refine kv_aload_n dX5_read_52 rfl ?_
      refine kw_gI dX5_read_53 fX5_32 hv2 (by first | rfl | assumption) rfl rfl ?_
      rw [g6]
      exact kv_iret dX5_read_56 rfl (by rw [hF]; exact ⟨rfl, xe⟩)
    · have hF : kpFin B n (.ok s) = .error s.1 := if_neg h2
      refine kv_aload_n dX5_read_48 rfl ?_
      refine kw_VQ [] mX5_fail dX5_read_49 lX5_45 wX5_fail kC5 hv2 rfl (by first | rfl | assumption) rfl rfl rfl (qX5_fail_ok cx x2) (by omega) (fun _ v3 q3 => ?_)
      obtain ⟨rfl, xe⟩ := q3
      have hvs := xe.1.wd hu
      have g6 := xe.2.1
      refine kv_aload_n dX5_read_52 rfl ?_
      refine kw_gI dX5_read_53 fX5_32 hvs (by first | rfl | assumption) rfl rfl ?_
      rw [g6]
      exact kv_iret dX5_read_56 rfl (by rw [hF]; exact ⟨rfl, xe⟩)

