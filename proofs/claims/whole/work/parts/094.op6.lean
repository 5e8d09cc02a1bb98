/-! rate, zone, tells, tell -/
def krate (a : KA) (p0 p1 : Int32) : Int32 × KA := if kOut p0 0 6 ∨ kOut p1 0 (nI (kTop.getD p0.toNatClampNeg 0)) then (-1000001, kF a 1) else (a 0 (8 + p0.toNatClampNeg), kUp1 a 0 (kSet (a 0) (8 + p0.toNatClampNeg) p1))
def kzone (a : KA) (p0 p1 p2 : Int32) : Int32 × KA := if kOut p0 0 7 ∨ kOut p1 0 2 ∨ kOut p2 0 (nI (kZt.getD p1.toNatClampNeg 0)) then (-1000001, kF a 1) else (a 0 (16 + 3 * p0.toNatClampNeg + p1.toNatClampNeg), kUp1 a 0 (kSet (a 0) (16 + 3 * p0.toNatClampNeg + p1.toNatClampNeg) p2))
def ktells (a : KA) (p0 p1 p2 : Int32) : Int32 × KA := if (kOut p0 0 (a 0 2 - 1) ∨ kOut p1 0 1) ∨ kOut p2 0 (kAll (a 0)) then (-1000001, kF a 1) else (a 0 (328 + 7 * p0.toNatClampNeg + (5 + p1.toNatClampNeg)), kUp1 a 0 (kSet (a 0) (328 + 7 * p0.toNatClampNeg + (5 + p1.toNatClampNeg)) p2))
def ktell (a : KA) (p0 : Int32) : Int32 × KA := if a 0 6 < 33 then (a 0 6 + 1, kUp1 a 0 (kSet (kSet (a 0) (1388 + kN (a 0) 6) p0) 6 (a 0 6 + 1))) else (-1000004, kF a 4)
theorem kTop_e : ∀ j, j < 7 → ([99, 50, 100, 100, 99, 9999, 50] : List Int32).getD j 0 = nI (kTop.getD j 0) := by decide
theorem kZt_e : ∀ j, j < 3 → ([9999, 99, 60] : List Int32).getD j 0 = nI (kZt.getD j 0) := by decide
theorem kTop_b : ∀ j, j < 7 → kTop.getD j 0 < 10000 ∧ kTop[j]? = some (kTop.getD j 0) := by decide
theorem kZt_b : ∀ j, j < 3 → kZt.getD j 0 < 10000 ∧ kZt[j]? = some (kZt.getD j 0) := by decide
theorem kN_suc {f : Nat → Int32} {k n : Nat} (h : f k = nI n + 1) (hn : n < 1000000) : kN f k = n + 1 := by
  unfold kN
  rw [h, show nI n + 1 = nI (n + 1) from kn_add rfl (show (1 : Int32) = nI 1 from rfl)]
  exact nI_clamp (by omega)
theorem kUp_suc {x : Int32} {n m : Nat} (h : x = nI n + 1) (hn : n < m) : kUp x m := ⟨n + 1, by omega, by rw [h]; exact kn_add rfl (show (1 : Int32) = nI 1 from rfl)⟩
theorem kOut3 {p : Int32} (h0 : ¬ p = 0) (h1 : ¬ p = 1) (h2 : ¬ p = 2) : kOut p 0 2 := by
  refine Classical.byContradiction fun q => ?_
  obtain ⟨j, hj, rfl⟩ := kOut.bd (n := 2) (by omega) q
  rcases (show j = 0 ∨ j = 1 ∨ j = 2 by omega) with rfl | rfl | rfl
  · exact h0 rfl
  · exact h1 rfl
  · exact h2 rfl
set_option maxRecDepth 20000 in
set_option maxHeartbeats 4000000 in
theorem qX11_rate {w : KW} {l : Launch} {u : KMem} (hu : kWd u) {a : KA} (hx : kRX a u) (ho : kOk a) (p0 p1 : Int32) : KC w l mX11_rate 2 0 0 [.ref 0, .int p0, .int p1] u (kOX u (krate a p0 p1).1 (krate a p0 p1).2) := by
  have hr := hx.1
  have hg := ho.1
  have hx20 := (hg.cnt (k := 2) rfl).2
  have hc30 := (hg.cnt (k := 0) rfl).2
  have ht10 := (hg.cnt (k := 3) rfl).2
  have he40 := (hg.cnt (k := 4) rfl).2
  have hs16 := hg.cnt (k := 1) rfl
  refine KC.of (ls := [_, _, _, _]) rfl rfl (Nat.le_of_ble_eq_true rfl) ?_
  refine kv_iload_n dX11_rate_0 rfl ?_
  refine kv_iconst dX11_rate_1 0 ki_0 ?_
  refine kv_bipush dX11_rate_2 6 kb_6 ?_
  refine kw_Si [_, _, _] mX11_outside dX11_rate_4 lX11_69 wX11_outside rfl rfl rfl (qX11_outside (by exact hu) _ _ _) (by decide) ?_
  refine kw_bne dX11_rate_7 23 (by decide) (fun h1 => ?_) (fun h1 => ?_)
  · have hS : krate a p0 p1 = (-1000001, kF a 1) := if_pos (Or.inl h1)
    refine kv_aload_n dX11_rate_23 rfl ?_
    refine kv_ldc dX11_rate_24 kX11_74 ?_
    refine kw_Vi [_] mX11_refuse dX11_rate_26 lX11_75 wX11_refuse kC11 hu rfl (by first | rfl | assumption) rfl rfl rfl (qX11_refuse (by exact hu) 1 (by decide) (by decide) _ (by decide)) (by decide) ?_
    exact kv_iret dX11_rate_29 rfl (by rw [hS]; exact kOX.no hx ho hu (by decide) rfl)
  · have n1 : ¬ kOut p0 0 6 := h1
    obtain ⟨j, hj6, rfl⟩ := kOut.bd (n := 6) (by omega) n1
    have hj : j < 7 := by omega
    have hD : krate a (nI j) p1 = if kOut (nI j) 0 6 ∨ kOut p1 0 (nI (kTop.getD j 0)) then (-1000001, kF a 1) else (a 0 (8 + j), kUp1 a 0 (kSet (a 0) (8 + j) p1)) := by
      unfold krate
      rw [nI_clamp (by omega)]
    refine kv_iload_n dX11_rate_10 rfl ?_
    refine kv_iconst dX11_rate_11 0 ki_0 ?_
    refine kv_gets 2 dX11_rate_12 rfl rfl sX11_187 ?_
    refine kv_iload_n dX11_rate_15 rfl ?_
    refine kv_ildC (k := j) dX11_rate_16 rfl rfl rfl rfl (show j < 7 by omega) rfl ?_
    rw [kTop_e j hj]
    refine kw_Si [_, _, _] mX11_outside dX11_rate_17 lX11_69 wX11_outside rfl rfl rfl (qX11_outside (by exact hu) _ _ _) (by decide) ?_
    refine kw_beq dX11_rate_20 30 (by decide) (fun h2 => ?_) (fun h2 => ?_)
    · have hS := hD
      rw [if_neg (fun q => q.elim n1 h2)] at hS
      refine kv_aload_n dX11_rate_30 rfl ?_
      refine kw_gR dX11_rate_31 fX11_12 hu (by first | rfl | assumption) rfl rfl (by first | rfl | assumption) ?_
      refine kw_gR dX11_rate_34 fX11_190 hu (by first | rfl | assumption) rfl rfl (by first | rfl | assumption) ?_
      refine kv_iload_n dX11_rate_37 rfl ?_
      refine kw_il dX11_rate_38 hu (by first | rfl | assumption) (j) rfl (by omega) rfl ?_
      rw [hr.rate j hj]
      refine kv_istore_n (ls2 := [_, _, _, _]) dX11_rate_39 rfl rfl rfl rfl ?_
      refine kv_aload_n dX11_rate_40 rfl ?_
      refine kw_gR dX11_rate_41 fX11_12 hu (by first | rfl | assumption) rfl rfl (by first | rfl | assumption) ?_
      refine kw_gR dX11_rate_44 fX11_190 hu (by first | rfl | assumption) rfl rfl (by first | rfl | assumption) ?_
      refine kv_iload_n dX11_rate_47 rfl ?_
      refine kv_iload_n dX11_rate_48 rfl ?_
      refine kw_is dX11_rate_49 hu (by first | rfl | assumption) (j) rfl (by omega) rfl ?_
      refine kv_iload_n dX11_rate_50 rfl ?_
      exact kv_iret dX11_rate_51 rfl (by rw [hS]; exact ⟨rfl, hu, fun b hb => kv_si_row (by omega), hx.now ho (hr.setRate hg hj p1) (fun b k hb _ => kv_si_a (by omega))⟩)
    · have hS := hD
      rw [if_pos (Or.inr h2)] at hS
      refine kv_aload_n dX11_rate_23 rfl ?_
      refine kv_ldc dX11_rate_24 kX11_74 ?_
      refine kw_Vi [_] mX11_refuse dX11_rate_26 lX11_75 wX11_refuse kC11 hu rfl (by first | rfl | assumption) rfl rfl rfl (qX11_refuse (by exact hu) 1 (by decide) (by decide) _ (by decide)) (by decide) ?_
      exact kv_iret dX11_rate_29 rfl (by rw [hS]; exact kOX.no hx ho hu (by decide) rfl)

set_option maxRecDepth 20000 in
set_option maxHeartbeats 4000000 in
theorem qX12_rate {w : KW} {l : Launch} {u : KMem} (hu : kWd u) {a : KA} (hm : kRM a u) (ho : kOk a) (p0 p1 : Int32) : KC w l mX12_rate 2 0 0 [.ref 413, .int p0, .int p1] u (kOM u (krate a p0 p1).1 (krate a p0 p1).2) := by
  have eg := hm.1
  have hg := ho.1
  have hx20 := (hg.cnt (k := 2) rfl).2
  have hc30 := (hg.cnt (k := 0) rfl).2
  have ht10 := (hg.cnt (k := 3) rfl).2
  have he40 := (hg.cnt (k := 4) rfl).2
  have hs16 := hg.cnt (k := 1) rfl
  refine KC.of (ls := [_, _, _]) rfl rfl (Nat.le_of_ble_eq_true rfl) ?_
  refine kv_iload_n dX12_rate_0 rfl ?_
  refine kv_iconst dX12_rate_1 0 ki_0 ?_
  refine kv_bipush dX12_rate_2 6 kb_6 ?_
  refine kw_Si [_, _, _] mX12_within dX12_rate_4 lX12_78 wX12_within rfl rfl rfl (qX12_within (by exact hu) _ _ _) (by decide) ?_
  refine kw_beq dX12_rate_7 36 (by decide) (fun h1 => ?_) (fun h1 => ?_)
  · have hS : krate a p0 p1 = (-1000001, kF a 1) := if_pos (Or.inl (kIn_n h1))
    refine kv_aload_n dX12_rate_36 rfl ?_
    refine kv_ldc dX12_rate_37 kX12_83 ?_
    refine kw_Vi [_] mX12_finding dX12_rate_39 lX12_84 wX12_finding kC12 hu rfl (by first | rfl | assumption) rfl rfl rfl (qX12_finding (by exact hu) 1 (by decide) (by decide) _ (by decide)) (by decide) ?_
    exact kv_iret dX12_rate_42 rfl (by first | (rw [hS]; exact kOM.no hm hu rfl) | (rw [hS]; exact ⟨by rw [eg], hu, fun b hb => kv_si_row (by omega), hm.now (by rw [kv_si_set, eg]) (fun b hb => kv_si_row (by omega)) (kv_si_row (by omega))⟩))
  · have n1 : ¬ kOut p0 0 6 := kIn_y h1
    obtain ⟨j, hj6, rfl⟩ := kOut.bd (n := 6) (by omega) n1
    have hj : j < 7 := by omega
    have hD : krate a (nI j) p1 = if kOut (nI j) 0 6 ∨ kOut p1 0 (nI (kTop.getD j 0)) then (-1000001, kF a 1) else (a 0 (8 + j), kUp1 a 0 (kSet (a 0) (8 + j) p1)) := by
      unfold krate
      rw [nI_clamp (by omega)]
    refine kv_iload_n dX12_rate_10 rfl ?_
    refine kv_iconst dX12_rate_11 0 ki_0 ?_
    refine kv_aload_n dX12_rate_12 rfl ?_
    refine kw_gR dX12_rate_13 fX12_19 hu (by first | rfl | assumption) rfl rfl (by first | rfl | assumption) ?_
    refine kv_iload_n dX12_rate_16 rfl ?_
    refine kw_il dX12_rate_17 hu (by first | rfl | assumption) (j) rfl (by omega) rfl ?_
    rw [hm.2.2.2.2.2.2.2.2.2.1 j hj]
    refine kw_Si [_, _, _] mX12_within dX12_rate_18 lX12_78 wX12_within rfl rfl rfl (qX12_within (by exact hu) _ _ _) (by decide) ?_
    refine kw_beq dX12_rate_21 36 (by decide) (fun h2 => ?_) (fun h2 => ?_)
    · have hS := hD
      rw [if_pos (Or.inr (kIn_n h2))] at hS
      refine kv_aload_n dX12_rate_36 rfl ?_
      refine kv_ldc dX12_rate_37 kX12_83 ?_
      refine kw_Vi [_] mX12_finding dX12_rate_39 lX12_84 wX12_finding kC12 hu rfl (by first | rfl | assumption) rfl rfl rfl (qX12_finding (by exact hu) 1 (by decide) (by decide) _ (by decide)) (by decide) ?_
      exact kv_iret dX12_rate_42 rfl (by first | (rw [hS]; exact kOM.no hm hu rfl) | (rw [hS]; exact ⟨by rw [eg], hu, fun b hb => kv_si_row (by omega), hm.now (by rw [kv_si_set, eg]) (fun b hb => kv_si_row (by omega)) (kv_si_row (by omega))⟩))
    · have hS := hD
      rw [if_neg (fun q => q.elim n1 (kIn_y h2))] at hS
      refine kv_aload_n dX12_rate_24 rfl ?_
      refine kv_bipush dX12_rate_25 8 kb_8 ?_
      refine kv_iload_n dX12_rate_27 rfl ?_
      refine kv_iadd dX12_rate_28 ?_
      refine kv_iload_n dX12_rate_29 rfl ?_
      rw [show (8 + nI j : Int32) = nI (8 + j) from kn_add (show (8 : Int32) = nI 8 from rfl) rfl]
      refine kw_Vi [_, _] mX12_become dX12_rate_30 lX12_100 wX12_become kC12 hu rfl (by first | rfl | assumption) rfl rfl rfl (qX12_become hu (8 + j) (by omega) p1) (by decide) ?_
      refine kv_goto dX12_rate_33 42 (by decide) ?_
      exact kv_iret dX12_rate_42 rfl (by first | (rw [hS]; exact kOM.no hm hu rfl) | (rw [hS]; exact ⟨by rw [eg], hu, fun b hb => kv_si_row (by omega), hm.now (by rw [kv_si_set, eg]) (fun b hb => kv_si_row (by omega)) (kv_si_row (by omega))⟩))

theorem krate_ok {a : KA} (ho : kOk a) (p0 p1 : Int32) : kOk (krate a p0 p1).2 := by
  unfold krate
  split
  · exact ho.fnd 1
  · rename_i h
    obtain ⟨j, hj6, rfl⟩ := kOut.bd (n := 6) (by omega) (fun q => h (Or.inl q))
    have hj : j < 7 := by omega
    rw [nI_clamp (by omega)] at h ⊢
    refine ho.now (ho.1.rate_ hj (fun i hi => kSet_n hi) (fun n hn => ?_))
    have hb := kTop_b j hj
    obtain ⟨k, hk, e⟩ := kOut.bd (by omega) (fun q => h (Or.inr q))
    rw [kSet_s, e]
    exact ⟨k, by rw [hb.2] at hn; have := Option.some.inj hn; omega, rfl⟩
set_option maxRecDepth 20000 in
set_option maxHeartbeats 4000000 in
theorem qX11_zone {w : KW} {l : Launch} {u : KMem} (hu : kWd u) {a : KA} (hx : kRX a u) (ho : kOk a) (p0 p1 p2 : Int32) : KC w l mX11_zone 2 0 0 [.ref 0, .int p0, .int p1, .int p2] u (kOX u (kzone a p0 p1 p2).1 (kzone a p0 p1 p2).2) := by
  have hr := hx.1
  have hg := ho.1
  have hx20 := (hg.cnt (k := 2) rfl).2
  have hc30 := (hg.cnt (k := 0) rfl).2
  have ht10 := (hg.cnt (k := 3) rfl).2
  have he40 := (hg.cnt (k := 4) rfl).2
  have hs16 := hg.cnt (k := 1) rfl
  refine KC.of (ls := [_, _, _, _, _, _]) rfl rfl (Nat.le_of_ble_eq_true rfl) ?_
  refine kv_iload_n dX11_zone_0 rfl ?_
  refine kv_iconst dX11_zone_1 0 ki_0 ?_
  refine kv_bipush dX11_zone_2 7 kb_7 ?_
  refine kw_Si [_, _, _] mX11_outside dX11_zone_4 lX11_69 wX11_outside rfl rfl rfl (qX11_outside (by exact hu) _ _ _) (by decide) ?_
  refine kw_bne dX11_zone_7 32 (by decide) (fun h1 => ?_) (fun h1 => ?_)
  · have hS : kzone a p0 p1 p2 = (-1000001, kF a 1) := if_pos (Or.inl h1)
    refine kv_aload_n dX11_zone_32 rfl ?_
    refine kv_ldc dX11_zone_33 kX11_74 ?_
    refine kw_Vi [_] mX11_refuse dX11_zone_35 lX11_75 wX11_refuse kC11 hu rfl (by first | rfl | assumption) rfl rfl rfl (qX11_refuse (by exact hu) 1 (by decide) (by decide) _ (by decide)) (by decide) ?_
    exact kv_iret dX11_zone_38 rfl (by rw [hS]; exact kOX.no hx ho hu (by decide) rfl)
  · have n1 : ¬ kOut p0 0 7 := h1
    obtain ⟨z, hz7, rfl⟩ := kOut.bd (n := 7) (by omega) n1
    have hz : z < 8 := by omega
    refine kv_iload_n dX11_zone_10 rfl ?_
    refine kv_iconst dX11_zone_11 0 ki_0 ?_
    refine kv_iconst dX11_zone_12 2 ki_2 ?_
    refine kw_Si [_, _, _] mX11_outside dX11_zone_13 lX11_69 wX11_outside rfl rfl rfl (qX11_outside (by exact hu) _ _ _) (by decide) ?_
    refine kw_bne dX11_zone_16 32 (by decide) (fun h2 => ?_) (fun h2 => ?_)
    · have hS : kzone a (nI z) p1 p2 = (-1000001, kF a 1) := if_pos (Or.inr (Or.inl h2))
      refine kv_aload_n dX11_zone_32 rfl ?_
      refine kv_ldc dX11_zone_33 kX11_74 ?_
      refine kw_Vi [_] mX11_refuse dX11_zone_35 lX11_75 wX11_refuse kC11 hu rfl (by first | rfl | assumption) rfl rfl rfl (qX11_refuse (by exact hu) 1 (by decide) (by decide) _ (by decide)) (by decide) ?_
      exact kv_iret dX11_zone_38 rfl (by rw [hS]; exact kOX.no hx ho hu (by decide) rfl)
    · have n2 : ¬ kOut p1 0 2 := h2
      obtain ⟨t, ht2, rfl⟩ := kOut.bd (n := 2) (by omega) n2
      have ht : t < 3 := by omega
      have hD : kzone a (nI z) (nI t) p2 = if kOut (nI z) 0 7 ∨ kOut (nI t) 0 2 ∨ kOut p2 0 (nI (kZt.getD t 0)) then (-1000001, kF a 1) else (a 0 (16 + 3 * z + t), kUp1 a 0 (kSet (a 0) (16 + 3 * z + t) p2)) := by
        unfold kzone
        rw [nI_clamp (by omega), nI_clamp (by omega)]
      refine kv_iload_n dX11_zone_19 rfl ?_
      refine kv_iconst dX11_zone_20 0 ki_0 ?_
      refine kv_gets 1 dX11_zone_21 rfl rfl sX11_181 ?_
      refine kv_iload_n dX11_zone_24 rfl ?_
      refine kv_ildC (k := t) dX11_zone_25 rfl rfl rfl rfl (show t < 3 by omega) rfl ?_
      rw [kZt_e t ht]
      refine kw_Si [_, _, _] mX11_outside dX11_zone_26 lX11_69 wX11_outside rfl rfl rfl (qX11_outside (by exact hu) _ _ _) (by decide) ?_
      refine kw_beq dX11_zone_29 39 (by decide) (fun h3 => ?_) (fun h3 => ?_)
      · have hS := hD
        rw [if_neg (fun q => q.elim n1 (fun q => q.elim n2 h3))] at hS
        refine kv_iload_n dX11_zone_39 rfl ?_
        refine kv_bipush dX11_zone_40 8 kb_8 ?_
        refine kv_imul dX11_zone_42 ?_
        refine kv_iload_n dX11_zone_43 rfl ?_
        refine kv_iadd dX11_zone_44 ?_
        rw [show (nI t * 8 + nI z : Int32) = nI (8 * t + z) from by rw [Nat.mul_comm]; exact kn_add (kn_mul rfl (show (8 : Int32) = nI 8 from rfl)) rfl]
        refine kv_istore (ls2 := [_, _, _, _, _, _]) dX11_zone_45 rfl rfl rfl rfl ?_
        refine kv_aload_n dX11_zone_47 rfl ?_
        refine kw_gR dX11_zone_48 fX11_12 hu (by first | rfl | assumption) rfl rfl (by first | rfl | assumption) ?_
        refine kw_gR dX11_zone_51 fX11_184 hu (by first | rfl | assumption) rfl rfl (by first | rfl | assumption) ?_
        refine kv_iload dX11_zone_54 rfl ?_
        refine kw_il dX11_zone_56 hu (by first | rfl | assumption) (8 * t + z) rfl (by omega) rfl ?_
        rw [hr.zone hz t ht]
        refine kv_istore (ls2 := [_, _, _, _, _, _]) dX11_zone_57 rfl rfl rfl rfl ?_
        refine kv_aload_n dX11_zone_59 rfl ?_
        refine kw_gR dX11_zone_60 fX11_12 hu (by first | rfl | assumption) rfl rfl (by first | rfl | assumption) ?_
        refine kw_gR dX11_zone_63 fX11_184 hu (by first | rfl | assumption) rfl rfl (by first | rfl | assumption) ?_
        refine kv_iload dX11_zone_66 rfl ?_
        refine kv_iload_n dX11_zone_68 rfl ?_
        refine kw_is dX11_zone_69 hu (by first | rfl | assumption) (8 * t + z) rfl (by omega) rfl ?_
        refine kv_iload dX11_zone_70 rfl ?_
        exact kv_iret dX11_zone_72 rfl (by rw [hS]; exact ⟨rfl, hu, fun b hb => kv_si_row (by omega), hx.now ho (hr.zone_ hg hz ht (fun i hi => kSet_n hi) (fun b k q => kv_si_n q) (by rw [kv_si_s, kSet_s])) (fun b k hb _ => kv_si_a (by omega))⟩)
      · have hS := hD
        rw [if_pos (Or.inr (Or.inr h3))] at hS
        refine kv_aload_n dX11_zone_32 rfl ?_
        refine kv_ldc dX11_zone_33 kX11_74 ?_
        refine kw_Vi [_] mX11_refuse dX11_zone_35 lX11_75 wX11_refuse kC11 hu rfl (by first | rfl | assumption) rfl rfl rfl (qX11_refuse (by exact hu) 1 (by decide) (by decide) _ (by decide)) (by decide) ?_
        exact kv_iret dX11_zone_38 rfl (by rw [hS]; exact kOX.no hx ho hu (by decide) rfl)

set_option maxRecDepth 20000 in
set_option maxHeartbeats 4000000 in
theorem qX12_zone {w : KW} {l : Launch} {u : KMem} (hu : kWd u) {a : KA} (hm : kRM a u) (ho : kOk a) (p0 p1 p2 : Int32) : KC w l mX12_zone 2 0 0 [.ref 413, .int p0, .int p1, .int p2] u (kOM u (kzone a p0 p1 p2).1 (kzone a p0 p1 p2).2) := by
  have eg := hm.1
  have hg := ho.1
  have hx20 := (hg.cnt (k := 2) rfl).2
  have hc30 := (hg.cnt (k := 0) rfl).2
  have ht10 := (hg.cnt (k := 3) rfl).2
  have he40 := (hg.cnt (k := 4) rfl).2
  have hs16 := hg.cnt (k := 1) rfl
  refine KC.of (ls := [_, _, _, _, _]) rfl rfl (Nat.le_of_ble_eq_true rfl) ?_
  refine kv_iload_n dX12_zone_0 rfl ?_
  refine kv_iconst dX12_zone_1 0 ki_0 ?_
  refine kv_bipush dX12_zone_2 7 kb_7 ?_
  refine kw_Si [_, _, _] mX12_within dX12_zone_4 lX12_78 wX12_within rfl rfl rfl (qX12_within (by exact hu) _ _ _) (by decide) ?_
  refine kw_beq dX12_zone_7 65 (by decide) (fun h1 => ?_) (fun h1 => ?_)
  · have hS : kzone a p0 p1 p2 = (-1000001, kF a 1) := if_pos (Or.inl (kIn_n h1))
    refine kv_iconst dX12_zone_65 0 ki_0 ?_
    refine kv_istore (ls2 := [_, _, _, _, _]) dX12_zone_66 rfl rfl rfl rfl ?_
    refine kv_iload dX12_zone_68 rfl ?_
    refine kv_if_eq dX12_zone_70 89 (by decide) (fun h2 => ?_) (fun h2 => ?_)
    · refine kv_aload_n dX12_zone_89 rfl ?_
      refine kv_ldc dX12_zone_90 kX12_83 ?_
      refine kw_Vi [_] mX12_finding dX12_zone_92 lX12_84 wX12_finding kC12 hu rfl (by first | rfl | assumption) rfl rfl rfl (qX12_finding (by exact hu) 1 (by decide) (by decide) _ (by decide)) (by decide) ?_
      exact kv_iret dX12_zone_95 rfl (by first | (rw [hS]; exact kOM.no hm hu rfl) | (rw [hS]; exact ⟨by rw [eg], hu, fun b hb => kv_si_row (by omega), hm.now (by rw [kv_si_set, eg]) (fun b hb => kv_si_row (by omega)) (kv_si_row (by omega))⟩))
    · exact absurd h2 (by decide)
  · have n1 : ¬ kOut p0 0 7 := kIn_y h1
    obtain ⟨z, hz7, rfl⟩ := kOut.bd (n := 7) (by omega) n1
    have hz : z < 8 := by omega
    refine kv_iload_n dX12_zone_10 rfl ?_
    refine kv_if_ne dX12_zone_11 28 (by decide) (fun h3 => ?_) (fun h3 => ?_)
    · have g0 : ¬ p1 = 0 := h3
      refine kv_iload_n dX12_zone_28 rfl ?_
      refine kv_iconst dX12_zone_29 1 ki_1 ?_
      refine kv_icmp_ne dX12_zone_30 46 (by decide) (fun h4 => ?_) (fun h4 => ?_)
      · have g1 : ¬ p1 = 1 := h4
        refine kv_iload_n dX12_zone_46 rfl ?_
        refine kv_iconst dX12_zone_47 2 ki_2 ?_
        refine kv_icmp_ne dX12_zone_48 65 (by decide) (fun h5 => ?_) (fun h5 => ?_)
        · have hS : kzone a (nI z) p1 p2 = (-1000001, kF a 1) := if_pos (Or.inr (Or.inl (kOut3 g0 g1 h5)))
          refine kv_iconst dX12_zone_65 0 ki_0 ?_
          refine kv_istore (ls2 := [_, _, _, _, _]) dX12_zone_66 rfl rfl rfl rfl ?_
          refine kv_iload dX12_zone_68 rfl ?_
          refine kv_if_eq dX12_zone_70 89 (by decide) (fun h6 => ?_) (fun h6 => ?_)
          · refine kv_aload_n dX12_zone_89 rfl ?_
            refine kv_ldc dX12_zone_90 kX12_83 ?_
            refine kw_Vi [_] mX12_finding dX12_zone_92 lX12_84 wX12_finding kC12 hu rfl (by first | rfl | assumption) rfl rfl rfl (qX12_finding (by exact hu) 1 (by decide) (by decide) _ (by decide)) (by decide) ?_
            exact kv_iret dX12_zone_95 rfl (by first | (rw [hS]; exact kOM.no hm hu rfl) | (rw [hS]; exact ⟨by rw [eg], hu, fun b hb => kv_si_row (by omega), hm.now (by rw [kv_si_set, eg]) (fun b hb => kv_si_row (by omega)) (kv_si_row (by omega))⟩))
          · exact absurd h6 (by decide)
        · have h02 : p1 = 2 := h5
          refine kv_iload_n dX12_zone_51 rfl ?_
          refine kv_iconst dX12_zone_52 0 ki_0 ?_
          refine kv_bipush dX12_zone_53 60 kb_60 ?_
          refine kw_Si [_, _, _] mX12_within dX12_zone_55 lX12_78 wX12_within rfl rfl rfl (qX12_within (by exact hu) _ _ _) (by decide) ?_
          refine kw_beq dX12_zone_58 65 (by decide) (fun h7 => ?_) (fun h7 => ?_)
          · have ez : kZt.getD (2 : Int32).toNatClampNeg 0 = 60 := by decide
            have hS : kzone a (nI z) p1 p2 = (-1000001, kF a 1) := if_pos (Or.inr (Or.inr (by rw [h02, ez]; exact kIn_n h7)))
            refine kv_iconst dX12_zone_65 0 ki_0 ?_
            refine kv_istore (ls2 := [_, _, _, _, _]) dX12_zone_66 rfl rfl rfl rfl ?_
            refine kv_iload dX12_zone_68 rfl ?_
            refine kv_if_eq dX12_zone_70 89 (by decide) (fun h8 => ?_) (fun h8 => ?_)
            · refine kv_aload_n dX12_zone_89 rfl ?_
              refine kv_ldc dX12_zone_90 kX12_83 ?_
              refine kw_Vi [_] mX12_finding dX12_zone_92 lX12_84 wX12_finding kC12 hu rfl (by first | rfl | assumption) rfl rfl rfl (qX12_finding (by exact hu) 1 (by decide) (by decide) _ (by decide)) (by decide) ?_
              exact kv_iret dX12_zone_95 rfl (by first | (rw [hS]; exact kOM.no hm hu rfl) | (rw [hS]; exact ⟨by rw [eg], hu, fun b hb => kv_si_row (by omega), hm.now (by rw [kv_si_set, eg]) (fun b hb => kv_si_row (by omega)) (kv_si_row (by omega))⟩))
            · exact absurd h8 (by decide)
          · have ez : kZt.getD (2 : Int32).toNatClampNeg 0 = 60 := by decide
            have n3 : ¬ kOut p2 0 (nI (kZt.getD p1.toNatClampNeg 0)) := by rw [h02, ez]; exact kIn_y h7
            have n2 : ¬ kOut p1 0 2 := by rw [h02]; decide
            refine kv_iconst dX12_zone_61 1 ki_1 ?_
            refine kv_goto dX12_zone_62 66 (by decide) ?_
            refine kv_istore (ls2 := [_, _, _, _, _]) dX12_zone_66 rfl rfl rfl rfl ?_
            refine kv_iload dX12_zone_68 rfl ?_
            refine kv_if_eq dX12_zone_70 89 (by decide) (fun h9 => ?_) (fun h9 => ?_)
            · exact absurd h9 (by decide)
            · refine kv_aload_n dX12_zone_73 rfl ?_
              refine kv_bipush dX12_zone_74 16 kb_16 ?_
              refine kv_iconst dX12_zone_76 3 ki_3 ?_
              refine kv_iload_n dX12_zone_77 rfl ?_
              refine kv_imul dX12_zone_78 ?_
              refine kv_iadd dX12_zone_79 ?_
              refine kv_iload_n dX12_zone_80 rfl ?_
              refine kv_iadd dX12_zone_81 ?_
              refine kv_iload_n dX12_zone_82 rfl ?_
              have hS : kzone a (nI z) p1 p2 = _ := if_neg (fun q => q.elim n1 (fun q => q.elim n2 n3))
              obtain ⟨t, ht2, rfl⟩ := kOut.bd (n := 2) (by omega) n2
              rw [nI_clamp (by omega), nI_clamp (by omega)] at hS
              rw [show (16 + 3 * nI z + nI t : Int32) = nI (16 + 3 * z + t) from kn_add (kn_add (show (16 : Int32) = nI 16 from rfl) (kn_mul (show (3 : Int32) = nI 3 from rfl) rfl)) rfl]
              refine kw_Vi [_, _] mX12_become dX12_zone_83 lX12_100 wX12_become kC12 hu rfl (by first | rfl | assumption) rfl rfl rfl (qX12_become hu (16 + 3 * z + t) (by omega) p2) (by decide) ?_
              refine kv_goto dX12_zone_86 95 (by decide) ?_
              exact kv_iret dX12_zone_95 rfl (by first | (rw [hS]; exact kOM.no hm hu rfl) | (rw [hS]; exact ⟨by rw [eg], hu, fun b hb => kv_si_row (by omega), hm.now (by rw [kv_si_set, eg]) (fun b hb => kv_si_row (by omega)) (kv_si_row (by omega))⟩))
      · have h01 : p1 = 1 := h4
        refine kv_iload_n dX12_zone_33 rfl ?_
        refine kv_iconst dX12_zone_34 0 ki_0 ?_
        refine kv_bipush dX12_zone_35 99 kb_99 ?_
        refine kw_Si [_, _, _] mX12_within dX12_zone_37 lX12_78 wX12_within rfl rfl rfl (qX12_within (by exact hu) _ _ _) (by decide) ?_
        refine kw_beq dX12_zone_40 65 (by decide) (fun h10 => ?_) (fun h10 => ?_)
        · have ez : kZt.getD (1 : Int32).toNatClampNeg 0 = 99 := by decide
          have hS : kzone a (nI z) p1 p2 = (-1000001, kF a 1) := if_pos (Or.inr (Or.inr (by rw [h01, ez]; exact kIn_n h10)))
          refine kv_iconst dX12_zone_65 0 ki_0 ?_
          refine kv_istore (ls2 := [_, _, _, _, _]) dX12_zone_66 rfl rfl rfl rfl ?_
          refine kv_iload dX12_zone_68 rfl ?_
          refine kv_if_eq dX12_zone_70 89 (by decide) (fun h11 => ?_) (fun h11 => ?_)
          · refine kv_aload_n dX12_zone_89 rfl ?_
            refine kv_ldc dX12_zone_90 kX12_83 ?_
            refine kw_Vi [_] mX12_finding dX12_zone_92 lX12_84 wX12_finding kC12 hu rfl (by first | rfl | assumption) rfl rfl rfl (qX12_finding (by exact hu) 1 (by decide) (by decide) _ (by decide)) (by decide) ?_
            exact kv_iret dX12_zone_95 rfl (by first | (rw [hS]; exact kOM.no hm hu rfl) | (rw [hS]; exact ⟨by rw [eg], hu, fun b hb => kv_si_row (by omega), hm.now (by rw [kv_si_set, eg]) (fun b hb => kv_si_row (by omega)) (kv_si_row (by omega))⟩))
          · exact absurd h11 (by decide)
        · have ez : kZt.getD (1 : Int32).toNatClampNeg 0 = 99 := by decide
          have n3 : ¬ kOut p2 0 (nI (kZt.getD p1.toNatClampNeg 0)) := by rw [h01, ez]; exact kIn_y h10
          have n2 : ¬ kOut p1 0 2 := by rw [h01]; decide
          refine kv_goto dX12_zone_43 61 (by decide) ?_
          refine kv_iconst dX12_zone_61 1 ki_1 ?_
          refine kv_goto dX12_zone_62 66 (by decide) ?_
          refine kv_istore (ls2 := [_, _, _, _, _]) dX12_zone_66 rfl rfl rfl rfl ?_
          refine kv_iload dX12_zone_68 rfl ?_
          refine kv_if_eq dX12_zone_70 89 (by decide) (fun h12 => ?_) (fun h12 => ?_)
          · exact absurd h12 (by decide)
          · refine kv_aload_n dX12_zone_73 rfl ?_
            refine kv_bipush dX12_zone_74 16 kb_16 ?_
            refine kv_iconst dX12_zone_76 3 ki_3 ?_
            refine kv_iload_n dX12_zone_77 rfl ?_
            refine kv_imul dX12_zone_78 ?_
            refine kv_iadd dX12_zone_79 ?_
            refine kv_iload_n dX12_zone_80 rfl ?_
            refine kv_iadd dX12_zone_81 ?_
            refine kv_iload_n dX12_zone_82 rfl ?_
            have hS : kzone a (nI z) p1 p2 = _ := if_neg (fun q => q.elim n1 (fun q => q.elim n2 n3))
            obtain ⟨t, ht2, rfl⟩ := kOut.bd (n := 2) (by omega) n2
            rw [nI_clamp (by omega), nI_clamp (by omega)] at hS
            rw [show (16 + 3 * nI z + nI t : Int32) = nI (16 + 3 * z + t) from kn_add (kn_add (show (16 : Int32) = nI 16 from rfl) (kn_mul (show (3 : Int32) = nI 3 from rfl) rfl)) rfl]
            refine kw_Vi [_, _] mX12_become dX12_zone_83 lX12_100 wX12_become kC12 hu rfl (by first | rfl | assumption) rfl rfl rfl (qX12_become hu (16 + 3 * z + t) (by omega) p2) (by decide) ?_
            refine kv_goto dX12_zone_86 95 (by decide) ?_
            exact kv_iret dX12_zone_95 rfl (by first | (rw [hS]; exact kOM.no hm hu rfl) | (rw [hS]; exact ⟨by rw [eg], hu, fun b hb => kv_si_row (by omega), hm.now (by rw [kv_si_set, eg]) (fun b hb => kv_si_row (by omega)) (kv_si_row (by omega))⟩))
    · have h00 : p1 = 0 := h3
      refine kv_iload_n dX12_zone_14 rfl ?_
      refine kv_iconst dX12_zone_15 0 ki_0 ?_
      refine kv_sipush dX12_zone_16 9999 kz_9999 ?_
      refine kw_Si [_, _, _] mX12_within dX12_zone_19 lX12_78 wX12_within rfl rfl rfl (qX12_within (by exact hu) _ _ _) (by decide) ?_
      refine kw_beq dX12_zone_22 65 (by decide) (fun h13 => ?_) (fun h13 => ?_)
      · have ez : kZt.getD (0 : Int32).toNatClampNeg 0 = 9999 := by decide
        have hS : kzone a (nI z) p1 p2 = (-1000001, kF a 1) := if_pos (Or.inr (Or.inr (by rw [h00, ez]; exact kIn_n h13)))
        refine kv_iconst dX12_zone_65 0 ki_0 ?_
        refine kv_istore (ls2 := [_, _, _, _, _]) dX12_zone_66 rfl rfl rfl rfl ?_
        refine kv_iload dX12_zone_68 rfl ?_
        refine kv_if_eq dX12_zone_70 89 (by decide) (fun h14 => ?_) (fun h14 => ?_)
        · refine kv_aload_n dX12_zone_89 rfl ?_
          refine kv_ldc dX12_zone_90 kX12_83 ?_
          refine kw_Vi [_] mX12_finding dX12_zone_92 lX12_84 wX12_finding kC12 hu rfl (by first | rfl | assumption) rfl rfl rfl (qX12_finding (by exact hu) 1 (by decide) (by decide) _ (by decide)) (by decide) ?_
          exact kv_iret dX12_zone_95 rfl (by first | (rw [hS]; exact kOM.no hm hu rfl) | (rw [hS]; exact ⟨by rw [eg], hu, fun b hb => kv_si_row (by omega), hm.now (by rw [kv_si_set, eg]) (fun b hb => kv_si_row (by omega)) (kv_si_row (by omega))⟩))
        · exact absurd h14 (by decide)
      · have ez : kZt.getD (0 : Int32).toNatClampNeg 0 = 9999 := by decide
        have n3 : ¬ kOut p2 0 (nI (kZt.getD p1.toNatClampNeg 0)) := by rw [h00, ez]; exact kIn_y h13
        have n2 : ¬ kOut p1 0 2 := by rw [h00]; decide
        refine kv_goto dX12_zone_25 61 (by decide) ?_
        refine kv_iconst dX12_zone_61 1 ki_1 ?_
        refine kv_goto dX12_zone_62 66 (by decide) ?_
        refine kv_istore (ls2 := [_, _, _, _, _]) dX12_zone_66 rfl rfl rfl rfl ?_
        refine kv_iload dX12_zone_68 rfl ?_
        refine kv_if_eq dX12_zone_70 89 (by decide) (fun h15 => ?_) (fun h15 => ?_)
        · exact absurd h15 (by decide)
        · refine kv_aload_n dX12_zone_73 rfl ?_
          refine kv_bipush dX12_zone_74 16 kb_16 ?_
          refine kv_iconst dX12_zone_76 3 ki_3 ?_
          refine kv_iload_n dX12_zone_77 rfl ?_
          refine kv_imul dX12_zone_78 ?_
          refine kv_iadd dX12_zone_79 ?_
          refine kv_iload_n dX12_zone_80 rfl ?_
          refine kv_iadd dX12_zone_81 ?_
          refine kv_iload_n dX12_zone_82 rfl ?_
          have hS : kzone a (nI z) p1 p2 = _ := if_neg (fun q => q.elim n1 (fun q => q.elim n2 n3))
          obtain ⟨t, ht2, rfl⟩ := kOut.bd (n := 2) (by omega) n2
          rw [nI_clamp (by omega), nI_clamp (by omega)] at hS
          rw [show (16 + 3 * nI z + nI t : Int32) = nI (16 + 3 * z + t) from kn_add (kn_add (show (16 : Int32) = nI 16 from rfl) (kn_mul (show (3 : Int32) = nI 3 from rfl) rfl)) rfl]
          refine kw_Vi [_, _] mX12_become dX12_zone_83 lX12_100 wX12_become kC12 hu rfl (by first | rfl | assumption) rfl rfl rfl (qX12_become hu (16 + 3 * z + t) (by omega) p2) (by decide) ?_
          refine kv_goto dX12_zone_86 95 (by decide) ?_
          exact kv_iret dX12_zone_95 rfl (by first | (rw [hS]; exact kOM.no hm hu rfl) | (rw [hS]; exact ⟨by rw [eg], hu, fun b hb => kv_si_row (by omega), hm.now (by rw [kv_si_set, eg]) (fun b hb => kv_si_row (by omega)) (kv_si_row (by omega))⟩))

theorem kzone_ok {a : KA} (ho : kOk a) (p0 p1 p2 : Int32) : kOk (kzone a p0 p1 p2).2 := by
  unfold kzone
  split
  · exact ho.fnd 1
  · rename_i h
    obtain ⟨z, hz, rfl⟩ := kOut.bd (n := 7) (by omega) (fun q => h (Or.inl q))
    obtain ⟨t, ht, rfl⟩ := kOut.bd (n := 2) (by omega) (fun q => h (Or.inr (Or.inl q)))
    rw [nI_clamp (by omega)] at h ⊢
    rw [nI_clamp (by omega)]
    refine ho.now (ho.1.zone_ (z0 := z) (t0 := t) (by omega) (by omega) (fun i hi => kSet_n hi) (fun n hn => ?_))
    have hb := kZt_b t (by omega)
    obtain ⟨k, hk, e⟩ := kOut.bd (by omega) (fun q => h (Or.inr (Or.inr q)))
    rw [kSet_s, e]
    exact ⟨k, by rw [hb.2] at hn; have := Option.some.inj hn; omega, rfl⟩
set_option maxRecDepth 20000 in
set_option maxHeartbeats 4000000 in
theorem qX11_tells {w : KW} {l : Launch} {u : KMem} (hu : kWd u) {a : KA} (hx : kRX a u) (ho : kOk a) (p0 p1 p2 : Int32) : KC w l mX11_tells 3 0 0 [.ref 0, .int p0, .int p1, .int p2] u (kOX u (ktells a p0 p1 p2).1 (ktells a p0 p1 p2).2) := by
  have hr := hx.1
  have hg := ho.1
  have hx20 := (hg.cnt (k := 2) rfl).2
  have hc30 := (hg.cnt (k := 0) rfl).2
  have ht10 := (hg.cnt (k := 3) rfl).2
  have he40 := (hg.cnt (k := 4) rfl).2
  have hs16 := hg.cnt (k := 1) rfl
  refine KC.of (ls := [_, _, _, _, _, _]) rfl rfl (Nat.le_of_ble_eq_true rfl) ?_
  refine kv_aload_n dX11_tells_0 rfl ?_
  refine kv_iload_n dX11_tells_1 rfl ?_
  refine kv_iload_n dX11_tells_2 rfl ?_
  refine kw_Vi [_, _] mX11_noSide dX11_tells_3 lX11_144 wX11_noSide kC11 hu rfl (by first | rfl | assumption) rfl rfl rfl (qX11_noSide (by exact hu) _ _) (by decide) ?_
  refine kw_bne dX11_tells_6 28 (by decide) (fun h1 => ?_) (fun h1 => ?_)
  · rw [hr.n2] at h1
    have hS : ktells a p0 p1 p2 = (-1000001, kF a 1) := if_pos (Or.inl h1)
    refine kv_aload_n dX11_tells_28 rfl ?_
    refine kv_ldc dX11_tells_29 kX11_74 ?_
    refine kw_Vi [_] mX11_refuse dX11_tells_31 lX11_75 wX11_refuse kC11 hu rfl (by first | rfl | assumption) rfl rfl rfl (qX11_refuse (by exact hu) 1 (by decide) (by decide) _ (by decide)) (by decide) ?_
    exact kv_iret dX11_tells_34 rfl (by rw [hS]; exact kOX.no hx ho hu (by decide) rfl)
  · rw [hr.n2] at h1
    have n1 : ¬ kOut p0 0 (a 0 2 - 1) := fun q => h1 (Or.inl q)
    have n3 : ¬ kOut p1 0 1 := fun q => h1 (Or.inr q)
    refine kv_iload_n dX11_tells_9 rfl ?_
    refine kv_iconst dX11_tells_10 0 ki_0 ?_
    refine kv_iconst dX11_tells_11 1 ki_1 ?_
    refine kv_aload_n dX11_tells_12 rfl ?_
    refine kw_gR dX11_tells_13 fX11_12 hu (by first | rfl | assumption) rfl rfl (by first | rfl | assumption) ?_
    refine kw_gI dX11_tells_16 fX11_121 hu (by first | rfl | assumption) rfl rfl ?_
    rw [hr.n1]
    refine kv_ishl dX11_tells_19 ?_
    refine kv_iconst dX11_tells_20 1 ki_1 ?_
    refine kv_isub dX11_tells_21 ?_
    refine kw_Si [_, _, _] mX11_outside dX11_tells_22 lX11_69 wX11_outside rfl rfl rfl (qX11_outside (by exact hu) _ _ _) (by decide) ?_
    refine kw_beq dX11_tells_25 35 (by decide) (fun h2 => ?_) (fun h2 => ?_)
    · have n2 : ¬ kOut p2 0 (kAll (a 0)) := h2
      have hS : ktells a p0 p1 p2 = _ := if_neg (fun q => q.elim (fun q => q.elim n1 n3) n2)
      obtain ⟨x, hx2, rfl⟩ := hg.at (k := 2) rfl n1
      obtain ⟨s, hs2, rfl⟩ := kOut.bd (n := 1) (by omega) n3
      rw [nI_clamp (by omega), nI_clamp (by omega)] at hS
      have hs : s < 2 := by omega
      have kx := ks_crash x (by omega)
      have kx1 := kx.1
      have kx2 := kx.2.1
      have kx3 := kx.2.2.1
      have kx4 := kx.2.2.2.1
      have kx5 := kx.2.2.2.2.1
      have kx6 := kx.2.2.2.2.2
      refine kv_aload_n dX11_tells_35 rfl ?_
      refine kw_gR dX11_tells_36 fX11_12 hu (by first | rfl | assumption) rfl rfl (by first | rfl | assumption) ?_
      refine kw_gR dX11_tells_39 fX11_137 hu (by first | rfl | assumption) rfl rfl (by first | rfl | assumption) ?_
      refine kv_iload_n dX11_tells_42 rfl ?_
      refine kw_al (t := 1) (n := 20) dX11_tells_43 hu rfl rfl (x) rfl (by omega) rfl (by first | rfl | assumption) ?_
      refine kw_gR dX11_tells_44 fX11_148 hu (by first | rfl | assumption) rfl rfl (by first | rfl | assumption) ?_
      refine kv_astore (ls2 := [_, _, _, _, _, _]) dX11_tells_47 rfl rfl rfl rfl ?_
      refine kv_aload dX11_tells_49 rfl ?_
      refine kv_iload_n dX11_tells_51 rfl ?_
      refine kw_il dX11_tells_52 hu (by first | rfl | assumption) (s) rfl (by omega) rfl ?_
      rw [hr.tell hx2 s hs]
      refine kv_istore (ls2 := [_, _, _, _, _, _]) dX11_tells_53 rfl rfl rfl rfl ?_
      refine kv_aload dX11_tells_55 rfl ?_
      refine kv_iload_n dX11_tells_57 rfl ?_
      refine kv_iload_n dX11_tells_58 rfl ?_
      refine kw_is dX11_tells_59 hu (by first | rfl | assumption) (s) rfl (by omega) rfl ?_
      refine kv_iload dX11_tells_60 rfl ?_
      exact kv_iret dX11_tells_62 rfl (by rw [hS]; exact ⟨rfl, hu, fun b hb => kv_si_row (by omega), hx.now ho (hr.tells hg hx2 hs (fun i hi => kSet_n hi) (fun b k q => kv_si_n q) (by rw [kv_si_s, kSet_s])) (fun b k hb _ => kv_si_a (by omega))⟩)
    · have hS : ktells a p0 p1 p2 = (-1000001, kF a 1) := if_pos (Or.inr h2)
      refine kv_aload_n dX11_tells_28 rfl ?_
      refine kv_ldc dX11_tells_29 kX11_74 ?_
      refine kw_Vi [_] mX11_refuse dX11_tells_31 lX11_75 wX11_refuse kC11 hu rfl (by first | rfl | assumption) rfl rfl rfl (qX11_refuse (by exact hu) 1 (by decide) (by decide) _ (by decide)) (by decide) ?_
      exact kv_iret dX11_tells_34 rfl (by rw [hS]; exact kOX.no hx ho hu (by decide) rfl)

set_option maxRecDepth 20000 in
set_option maxHeartbeats 4000000 in
theorem qX12_tells {w : KW} {l : Launch} {u : KMem} (hu : kWd u) {a : KA} (hm : kRM a u) (ho : kOk a) (p0 p1 p2 : Int32) : KC w l mX12_tells 2 0 0 [.ref 413, .int p0, .int p1, .int p2] u (kOM u (ktells a p0 p1 p2).1 (ktells a p0 p1 p2).2) := by
  have eg := hm.1
  have hg := ho.1
  have hx20 := (hg.cnt (k := 2) rfl).2
  have hc30 := (hg.cnt (k := 0) rfl).2
  have ht10 := (hg.cnt (k := 3) rfl).2
  have he40 := (hg.cnt (k := 4) rfl).2
  have hs16 := hg.cnt (k := 1) rfl
  refine KC.of (ls := [_, _, _, _]) rfl rfl (Nat.le_of_ble_eq_true rfl) ?_
  refine kv_aload_n dX12_tells_0 rfl ?_
  refine kv_iload_n dX12_tells_1 rfl ?_
  refine kv_iconst dX12_tells_2 2 ki_2 ?_
  refine kw_Vi [_, _] mX12_is dX12_tells_3 lX12_93 wX12_is kC12 hu rfl (by first | rfl | assumption) rfl rfl rfl (gX12_is hu eg _ 2 (by omega)) (by decide) ?_
  refine kw_beq dX12_tells_6 48 (by decide) (fun h1 => ?_) (fun h1 => ?_)
  · have hS : ktells a p0 p1 p2 = (-1000001, kF a 1) := if_pos (Or.inl (Or.inl (kIn_n h1)))
    refine kv_aload_n dX12_tells_48 rfl ?_
    refine kv_ldc dX12_tells_49 kX12_83 ?_
    refine kw_Vi [_] mX12_finding dX12_tells_51 lX12_84 wX12_finding kC12 hu rfl (by first | rfl | assumption) rfl rfl rfl (qX12_finding (by exact hu) 1 (by decide) (by decide) _ (by decide)) (by decide) ?_
    exact kv_iret dX12_tells_54 rfl (by first | (rw [hS]; exact kOM.no hm hu rfl) | (rw [hS]; exact ⟨by rw [eg], hu, fun b hb => kv_si_row (by omega), hm.now (by rw [kv_si_set, eg]) (fun b hb => kv_si_row (by omega)) (kv_si_row (by omega))⟩))
  · have n1 : ¬ kOut p0 0 (a 0 2 - 1) := kIn_y h1
    refine kv_iload_n dX12_tells_9 rfl ?_
    refine kw_Si [_] mX12_isSide dX12_tells_10 lX12_105 wX12_isSide rfl rfl rfl (qX12_isSide (by exact hu) _) (by decide) ?_
    refine kw_beq dX12_tells_13 48 (by decide) (fun h2 => ?_) (fun h2 => ?_)
    · have hS : ktells a p0 p1 p2 = (-1000001, kF a 1) := if_pos (Or.inl (Or.inr (kIn_n h2)))
      refine kv_aload_n dX12_tells_48 rfl ?_
      refine kv_ldc dX12_tells_49 kX12_83 ?_
      refine kw_Vi [_] mX12_finding dX12_tells_51 lX12_84 wX12_finding kC12 hu rfl (by first | rfl | assumption) rfl rfl rfl (qX12_finding (by exact hu) 1 (by decide) (by decide) _ (by decide)) (by decide) ?_
      exact kv_iret dX12_tells_54 rfl (by first | (rw [hS]; exact kOM.no hm hu rfl) | (rw [hS]; exact ⟨by rw [eg], hu, fun b hb => kv_si_row (by omega), hm.now (by rw [kv_si_set, eg]) (fun b hb => kv_si_row (by omega)) (kv_si_row (by omega))⟩))
    · have n3 : ¬ kOut p1 0 1 := kIn_y h2
      refine kv_iload_n dX12_tells_16 rfl ?_
      refine kv_iconst dX12_tells_17 0 ki_0 ?_
      refine kv_aload_n dX12_tells_18 rfl ?_
      refine kw_Vi [] mX12_allShapes dX12_tells_19 lX12_109 wX12_allShapes kC12 hu rfl (by first | rfl | assumption) rfl rfl rfl (gX12_allShapes hu eg) (by decide) ?_
      refine kw_Si [_, _, _] mX12_within dX12_tells_22 lX12_78 wX12_within rfl rfl rfl (qX12_within (by exact hu) _ _ _) (by decide) ?_
      refine kw_beq dX12_tells_25 48 (by decide) (fun h3 => ?_) (fun h3 => ?_)
      · have hS : ktells a p0 p1 p2 = (-1000001, kF a 1) := if_pos (Or.inr (kIn_n h3))
        refine kv_aload_n dX12_tells_48 rfl ?_
        refine kv_ldc dX12_tells_49 kX12_83 ?_
        refine kw_Vi [_] mX12_finding dX12_tells_51 lX12_84 wX12_finding kC12 hu rfl (by first | rfl | assumption) rfl rfl rfl (qX12_finding (by exact hu) 1 (by decide) (by decide) _ (by decide)) (by decide) ?_
        exact kv_iret dX12_tells_54 rfl (by first | (rw [hS]; exact kOM.no hm hu rfl) | (rw [hS]; exact ⟨by rw [eg], hu, fun b hb => kv_si_row (by omega), hm.now (by rw [kv_si_set, eg]) (fun b hb => kv_si_row (by omega)) (kv_si_row (by omega))⟩))
      · have n2 : ¬ kOut p2 0 (kAll (a 0)) := kIn_y h3
        have hS : ktells a p0 p1 p2 = _ := if_neg (fun q => q.elim (fun q => q.elim n1 n3) n2)
        obtain ⟨x, hx2, rfl⟩ := hg.at (k := 2) rfl n1
        obtain ⟨s, hs2, rfl⟩ := kOut.bd (n := 1) (by omega) n3
        rw [nI_clamp (by omega), nI_clamp (by omega)] at hS
        have hs : s < 2 := by omega
        refine kv_aload_n dX12_tells_28 rfl ?_
        refine kv_sipush dX12_tells_29 328 kz_328 ?_
        refine kv_bipush dX12_tells_32 7 kb_7 ?_
        refine kv_iload_n dX12_tells_34 rfl ?_
        refine kv_imul dX12_tells_35 ?_
        refine kv_iadd dX12_tells_36 ?_
        refine kv_iconst dX12_tells_37 5 ki_5 ?_
        refine kv_iadd dX12_tells_38 ?_
        refine kv_iload_n dX12_tells_39 rfl ?_
        refine kv_iadd dX12_tells_40 ?_
        refine kv_iload_n dX12_tells_41 rfl ?_
        rw [show (328 + 7 * nI x + 5 + nI s : Int32) = nI (328 + 7 * x + (5 + s)) from by rw [← Nat.add_assoc]; exact kn_add (kn_add (kn_add (show (328 : Int32) = nI 328 from rfl) (kn_mul (show (7 : Int32) = nI 7 from rfl) rfl)) (show (5 : Int32) = nI 5 from rfl)) rfl]
        refine kw_Vi [_, _] mX12_become dX12_tells_42 lX12_100 wX12_become kC12 hu rfl (by first | rfl | assumption) rfl rfl rfl (qX12_become hu (328 + 7 * x + (5 + s)) (by omega) p2) (by decide) ?_
        refine kv_goto dX12_tells_45 54 (by decide) ?_
        exact kv_iret dX12_tells_54 rfl (by first | (rw [hS]; exact kOM.no hm hu rfl) | (rw [hS]; exact ⟨by rw [eg], hu, fun b hb => kv_si_row (by omega), hm.now (by rw [kv_si_set, eg]) (fun b hb => kv_si_row (by omega)) (kv_si_row (by omega))⟩))

theorem ktells_ok {a : KA} (ho : kOk a) (p0 p1 p2 : Int32) : kOk (ktells a p0 p1 p2).2 := by
  unfold ktells
  split
  · exact ho.fnd 1
  · rename_i h
    have hg := ho.1
    have hx20 := (hg.cnt (k := 2) rfl).2
    have hs16 := (hg.cnt (k := 1) rfl).2
    obtain ⟨x, hx, rfl⟩ := hg.at (k := 2) rfl (fun q => h (Or.inl (Or.inl q)))
    obtain ⟨s, hs, rfl⟩ := kOut.bd (n := 1) (by omega) (fun q => h (Or.inl (Or.inr q)))
    rw [nI_clamp (by omega), nI_clamp (by omega)]
    have hp : 2 ^ kN (a 0) 1 ≤ 2 ^ 16 := Nat.pow_le_pow_right (by decide) hs16
    have hp1 : 1 ≤ 2 ^ kN (a 0) 1 := Nat.one_le_two_pow
    have h3 : ¬ kOut p2 0 (nI (2 ^ kN (a 0) 1 - 1)) := fun q => h (Or.inr (by rw [hg.all]; exact q))
    obtain ⟨n, hn, e⟩ := kOut.bd (n := 2 ^ kN (a 0) 1 - 1) (by omega) h3
    exact ho.now (hg.tells hx (s0 := s) (by omega) (fun i hi => kSet_n hi) ⟨n, by omega, by rw [kSet_s]; exact e⟩)
set_option maxRecDepth 20000 in
set_option maxHeartbeats 4000000 in
theorem qX11_tell {w : KW} {l : Launch} {u : KMem} (hu : kWd u) {a : KA} (hx : kRX a u) (ho : kOk a) (p0 : Int32) : KC w l mX11_tell 1 0 0 [.ref 0, .int p0] u (kOX u (ktell a p0).1 (ktell a p0).2) := by
  have hr := hx.1
  have hg := ho.1
  have hx20 := (hg.cnt (k := 2) rfl).2
  have hc30 := (hg.cnt (k := 0) rfl).2
  have ht10 := (hg.cnt (k := 3) rfl).2
  have he40 := (hg.cnt (k := 4) rfl).2
  have hs16 := hg.cnt (k := 1) rfl
  refine KC.of (ls := [_, _]) rfl rfl (Nat.le_of_ble_eq_true rfl) ?_
  have hw := hg.cnt (k := 6) rfl
  refine kv_aload_n dX11_tell_0 rfl ?_
  refine kw_gR dX11_tell_1 fX11_12 hu (by first | rfl | assumption) rfl rfl (by first | rfl | assumption) ?_
  refine kw_gI dX11_tell_4 fX11_411 hu (by first | rfl | assumption) rfl rfl ?_
  rw [hr.n6]
  refine kv_bipush dX11_tell_7 33 kb_33 ?_
  refine kv_icmp_lt dX11_tell_9 19 (by decide) (fun h1 => ?_) (fun h1 => ?_)
  · have hS : ktell a p0 = _ := if_pos h1
    have hlt : kN (a 0) 6 < 33 := by
      have := h1
      rw [hw.1] at this
      exact (nI_ltI (b := 33) (by omega) (by omega)).mp this
    refine kv_aload_n dX11_tell_19 rfl ?_
    refine kw_gR dX11_tell_20 fX11_12 hu (by first | rfl | assumption) rfl rfl (by first | rfl | assumption) ?_
    refine kw_gR dX11_tell_23 fX11_414 hu (by first | rfl | assumption) rfl rfl (by first | rfl | assumption) ?_
    refine kv_aload_n dX11_tell_26 rfl ?_
    refine kw_gR dX11_tell_27 fX11_12 hu (by first | rfl | assumption) rfl rfl (by first | rfl | assumption) ?_
    refine kw_gI dX11_tell_30 fX11_411 hu (by first | rfl | assumption) rfl rfl ?_
    rw [hr.n6]
    refine kv_iload_n dX11_tell_33 rfl ?_
    refine kw_is dX11_tell_34 hu (by first | rfl | assumption) (kN (a 0) 6) hw.1 (by omega) rfl ?_
    refine kv_aload_n dX11_tell_35 rfl ?_
    refine kw_gR dX11_tell_36 fX11_12 hu (by first | rfl | assumption) rfl rfl (by first | rfl | assumption) ?_
    refine kv_dup dX11_tell_39 rfl ?_
    refine kw_gI dX11_tell_40 fX11_411 hu (by first | rfl | assumption) rfl rfl ?_
    rw [kv_si_a (by decide), hr.n6]
    refine kv_iconst dX11_tell_43 1 ki_1 ?_
    refine kv_iadd dX11_tell_44 ?_
    refine kw_pI dX11_tell_45 fX11_411 hu (by first | rfl | assumption) rfl rfl ?_
    refine kv_aload_n dX11_tell_48 rfl ?_
    refine kw_gR dX11_tell_49 fX11_12 hu (by first | rfl | assumption) rfl rfl (by first | rfl | assumption) ?_
    refine kw_gI dX11_tell_52 fX11_411 hu (by first | rfl | assumption) rfl rfl ?_
    rw [kv_si_s]
    exact kv_iret dX11_tell_55 rfl (by rw [hS]; exact ⟨rfl, hu, fun b hb => by rw [kv_si_row (by omega), kv_si_row (by omega)], hx.now ho (hr.tell_ hg hlt (fun i hi => by rw [kSet_n (by omega), kSet_n (by omega)]) (fun b k q => by rw [kv_si_n (by omega), kv_si_n (by omega)]) (by rw [kv_si_s, kSet_s]) (kN_suc (by rw [kSet_s]; exact congrArg (· + 1) hw.1) (by omega)) (by rw [kv_si_a (by decide), kv_si_s, kSet_n (by omega), kSet_s])) (fun b k hb _ => by rw [kv_si_a (by omega), kv_si_a (by omega)])⟩)
  · have hS : ktell a p0 = (-1000004, kF a 4) := if_neg h1
    refine kv_aload_n dX11_tell_12 rfl ?_
    refine kv_ldc dX11_tell_13 kX11_83 ?_
    refine kw_Vi [_] mX11_refuse dX11_tell_15 lX11_75 wX11_refuse kC11 hu rfl (by first | rfl | assumption) rfl rfl rfl (qX11_refuse (by exact hu) 4 (by decide) (by decide) _ (by decide)) (by decide) ?_
    exact kv_iret dX11_tell_18 rfl (by rw [hS]; exact kOX.no hx ho hu (by decide) rfl)

set_option maxRecDepth 20000 in
set_option maxHeartbeats 4000000 in
theorem qX12_tell {w : KW} {l : Launch} {u : KMem} (hu : kWd u) {a : KA} (hm : kRM a u) (ho : kOk a) (p0 : Int32) : KC w l mX12_tell 1 0 0 [.ref 413, .int p0] u (kOM u (ktell a p0).1 (ktell a p0).2) := by
  have eg := hm.1
  have hg := ho.1
  have hx20 := (hg.cnt (k := 2) rfl).2
  have hc30 := (hg.cnt (k := 0) rfl).2
  have ht10 := (hg.cnt (k := 3) rfl).2
  have he40 := (hg.cnt (k := 4) rfl).2
  have hs16 := hg.cnt (k := 1) rfl
  refine KC.of (ls := [_, _]) rfl rfl (Nat.le_of_ble_eq_true rfl) ?_
  have hw := hg.cnt (k := 6) rfl
  refine kv_aload_n dX12_tell_0 rfl ?_
  refine kw_gR dX12_tell_1 fX12_9 hu (by first | rfl | assumption) rfl rfl (by first | rfl | assumption) ?_
  refine kv_bipush dX12_tell_4 6 kb_6 ?_
  refine kw_ig dX12_tell_6 hu eg rfl (_) (show (6 : Int32) = nI 6 from rfl) (by omega) rfl ?_
  refine kv_bipush dX12_tell_7 33 kb_33 ?_
  refine kv_icmp_ne dX12_tell_9 19 (by decide) (fun h1 => ?_) (fun h1 => ?_)
  · have hlt : kN (a 0) 6 < 33 := by
      have := hw.2
      refine Nat.lt_of_le_of_ne this (fun q => h1 ?_)
      rw [hw.1, q]
      rfl
    have hS : ktell a p0 = _ := if_pos (by rw [hw.1]; exact nI_lt (b := 33) hlt (by omega))
    refine kv_aload_n dX12_tell_19 rfl ?_
    refine kw_gR dX12_tell_20 fX12_9 hu (by first | rfl | assumption) rfl rfl (by first | rfl | assumption) ?_
    refine kv_sipush dX12_tell_23 1388 kz_1388 ?_
    refine kv_aload_n dX12_tell_26 rfl ?_
    refine kw_gR dX12_tell_27 fX12_9 hu (by first | rfl | assumption) rfl rfl (by first | rfl | assumption) ?_
    refine kv_bipush dX12_tell_30 6 kb_6 ?_
    refine kw_ig dX12_tell_32 hu eg rfl (_) (show (6 : Int32) = nI 6 from rfl) (by omega) rfl ?_
    refine kv_iadd dX12_tell_33 ?_
    refine kv_iload_n dX12_tell_34 rfl ?_
    refine kw_is dX12_tell_35 hu (by first | rfl | assumption) (1388 + kN (a 0) 6) (kn_add (show (1388 : Int32) = nI 1388 from rfl) hw.1) (by omega) rfl ?_
    have eg2 : (kv_si u 414 (1388 + kN (a 0) 6) p0).2.1 414 = kSet (a 0) (1388 + kN (a 0) 6) p0 := by rw [kv_si_set, eg]
    refine kv_aload_n dX12_tell_36 rfl ?_
    refine kw_gR dX12_tell_37 fX12_9 hu (by first | rfl | assumption) rfl rfl (by first | rfl | assumption) ?_
    refine kv_bipush dX12_tell_40 6 kb_6 ?_
    refine kv_dup2 dX12_tell_42 rfl rfl ?_
    refine kw_ig dX12_tell_43 hu eg2 rfl (_) (show (6 : Int32) = nI 6 from rfl) (by omega) rfl ?_
    rw [kSet_n (by omega)]
    refine kv_iconst dX12_tell_44 1 ki_1 ?_
    refine kv_iadd dX12_tell_45 ?_
    refine kw_is dX12_tell_46 hu (by first | rfl | assumption) (_) (show (6 : Int32) = nI 6 from rfl) (by omega) rfl ?_
    have eg3 : (kv_si (kv_si u 414 (1388 + kN (a 0) 6) p0) 414 6 (a 0 6 + 1)).2.1 414 = kSet (kSet (a 0) (1388 + kN (a 0) 6) p0) 6 (a 0 6 + 1) := by rw [kv_si_set, eg2]
    refine kv_aload_n dX12_tell_47 rfl ?_
    refine kw_gR dX12_tell_48 fX12_9 hu (by first | rfl | assumption) rfl rfl (by first | rfl | assumption) ?_
    refine kv_bipush dX12_tell_51 6 kb_6 ?_
    refine kw_ig dX12_tell_53 hu eg3 rfl (_) (show (6 : Int32) = nI 6 from rfl) (by omega) rfl ?_
    rw [kSet_s]
    exact kv_iret dX12_tell_54 rfl (by rw [hS]; exact ⟨rfl, hu, fun b hb => by rw [kv_si_row (by omega), kv_si_row (by omega)], hm.now eg3 (fun b hb => by rw [kv_si_row (by omega), kv_si_row (by omega)]) (by rw [kv_si_row (by omega), kv_si_row (by omega)])⟩)
  · have hS : ktell a p0 = (-1000004, kF a 4) := if_neg (by rw [h1]; decide)
    refine kv_aload_n dX12_tell_12 rfl ?_
    refine kv_ldc dX12_tell_13 kX12_88 ?_
    refine kw_Vi [_] mX12_finding dX12_tell_15 lX12_84 wX12_finding kC12 hu rfl (by first | rfl | assumption) rfl rfl rfl (qX12_finding (by exact hu) 4 (by decide) (by decide) _ (by decide)) (by decide) ?_
    exact kv_iret dX12_tell_18 rfl (by rw [hS]; exact kOM.no hm hu rfl)

theorem ktell_ok {a : KA} (ho : kOk a) (p0 : Int32) : kOk (ktell a p0).2 := by
  unfold ktell
  have hw := ho.1.cnt (k := 6) rfl
  split
  · rename_i h
    have hlt : kN (a 0) 6 < 33 := by
      rw [hw.1] at h
      exact (nI_ltI (b := 33) (by omega) (by omega)).mp h
    exact ho.now (ho.1.tell_ hlt (fun i hi => by rw [kSet_n (by omega), kSet_n (by omega)]) (kUp_suc (by rw [kSet_s]; exact congrArg (· + 1) hw.1) hlt) (kN_suc (by rw [kSet_s]; exact congrArg (· + 1) hw.1) (by omega)))
  · exact ho.fnd 4
