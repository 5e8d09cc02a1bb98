def kforce (a : KA) (p0 p1 : Int32) : Int32 × KA := if kOut p0 0 2 ∨ kOut p1 0 999 then (-1000001, kF a 1) else if 0 ≤ kInF (a 0) p0 p1 (kN (a 0) 3) then (kInF (a 0) p0 p1 (kN (a 0) 3), a) else (-1000002, kF a 2)
def ksays (a : KA) (p0 p1 p2 p3 p4 : Int32) : Int32 × KA := if kOut p0 0 (a 0 3 - 1) then (-1000001, kF a 1) else (kGiven (a 0) p0.toNatClampNeg p1 p2 p3 p4, a)
def ktold (a : KA) (p0 : Int32) : Int32 × KA := if kOut p0 1 6 then (-1000001, kF a 1) else (a 3 p0.toNatClampNeg, a)
theorem kOut.b1 {p : Int32} {n : Nat} (hn : n < 2147483648) (h : ¬ kOut p 1 (nI n)) : ∃ j, 1 ≤ j ∧ j ≤ n ∧ p = nI j := by
  have h2 := kOut.i h
  rw [show (1 : Int32).toInt = 1 from by decide, nI_toInt hn] at h2
  exact ⟨p.toInt.toNat, by omega, by omega, kn_i32 (by rw [nI_toInt (by omega)]; omega)⟩
set_option maxRecDepth 20000 in
set_option maxHeartbeats 4000000 in
theorem qX11_force {w : KW} {l : Launch} {u : KMem} (hu : kWd u) {a : KA} (hx : kRX a u) (ho : kOk a) (p0 p1 : Int32) : KC w l mX11_force 1 0 0 [.ref 0, .int p0, .int p1] u (kOX u (kforce a p0 p1).1 (kforce a p0 p1).2) := by
  have hr := hx.1
  have hg := ho.1
  have hx20 := (hg.cnt (k := 2) rfl).2
  have hc30 := (hg.cnt (k := 0) rfl).2
  have ht10 := (hg.cnt (k := 3) rfl).2
  have he40 := (hg.cnt (k := 4) rfl).2
  have hs16 := hg.cnt (k := 1) rfl
  refine KC.of (ls := [_, _, _, _]) rfl rfl (Nat.le_of_ble_eq_true rfl) ?_
  refine kv_iload_n dX11_force_0 rfl ?_
  refine kv_iconst dX11_force_1 0 ki_0 ?_
  refine kv_iconst dX11_force_2 2 ki_2 ?_
  refine kw_Si [_, _, _] mX11_outside dX11_force_3 lX11_69 wX11_outside rfl rfl rfl (qX11_outside hu _ _ _) (by decide) ?_
  refine kw_bne dX11_force_6 20 (by decide) (fun h1 => ?_) (fun h1 => ?_)
  · have hS : kforce a p0 p1 = (-1000001, kF a 1) := if_pos (Or.inl h1)
    refine kv_aload_n dX11_force_20 rfl ?_
    refine kv_ldc dX11_force_21 kX11_74 ?_
    refine kw_Vi [_] mX11_refuse dX11_force_23 lX11_75 wX11_refuse kC11 hu rfl (by first | rfl | assumption) rfl rfl rfl (qX11_refuse hu 1 (by decide) (by decide) _ (by decide)) (by decide) ?_
    exact kv_iret dX11_force_26 rfl (by rw [hS]; exact kOX.no hx ho hu (by decide) rfl)
  · have n1 : ¬ kOut p0 0 2 := h1
    refine kv_iload_n dX11_force_9 rfl ?_
    refine kv_iconst dX11_force_10 0 ki_0 ?_
    refine kv_sipush dX11_force_11 999 kz_999 ?_
    refine kw_Si [_, _, _] mX11_outside dX11_force_14 lX11_69 wX11_outside rfl rfl rfl (qX11_outside hu _ _ _) (by decide) ?_
    refine kw_beq dX11_force_17 27 (by decide) (fun h2 => ?_) (fun h2 => ?_)
    · have n2 : ¬ kOut p1 0 999 := h2
      have hS : kforce a p0 p1 = _ := if_neg (fun q => q.elim n1 n2)
      refine kv_aload_n dX11_force_27 rfl ?_
      refine kw_gR dX11_force_28 fX11_24 hu (by first | rfl | assumption) rfl rfl (by first | rfl | assumption) ?_
      refine kv_iload_n dX11_force_31 rfl ?_
      refine kv_iload_n dX11_force_32 rfl ?_
      refine kw_Vi [_, _] mX3_inForce dX11_force_33 lX11_244 wX3_inForce kC3 hu rfl (by first | rfl | assumption) rfl rfl rfl (qX3_inForce hu hr hg _ _) (by decide) ?_
      refine kv_istore_n (ls2 := [_, _, _, _]) dX11_force_36 rfl rfl rfl rfl ?_
      refine kv_iload_n dX11_force_37 rfl ?_
      refine kv_if_ge dX11_force_38 50 (by decide) (fun h3 => ?_) (fun h3 => ?_)
      · rw [if_pos h3] at hS
        refine kv_iload_n dX11_force_50 rfl ?_
        exact kv_iret dX11_force_51 rfl (by first | (rw [hS]; exact kOX.id hx ho hu kEq.rf rfl) | (rw [hS]; exact kOX.no hx ho hu (by decide) rfl))
      · rw [if_neg h3] at hS
        refine kv_aload_n dX11_force_41 rfl ?_
        refine kv_ldc dX11_force_42 kX11_248 ?_
        refine kw_Vi [_] mX11_refuse dX11_force_44 lX11_75 wX11_refuse kC11 hu rfl (by first | rfl | assumption) rfl rfl rfl (qX11_refuse hu 2 (by decide) (by decide) _ (by decide)) (by decide) ?_
        refine kv_goto dX11_force_47 51 (by decide) ?_
        exact kv_iret dX11_force_51 rfl (by first | (rw [hS]; exact kOX.id hx ho hu kEq.rf rfl) | (rw [hS]; exact kOX.no hx ho hu (by decide) rfl))
    · have hS : kforce a p0 p1 = (-1000001, kF a 1) := if_pos (Or.inr h2)
      refine kv_aload_n dX11_force_20 rfl ?_
      refine kv_ldc dX11_force_21 kX11_74 ?_
      refine kw_Vi [_] mX11_refuse dX11_force_23 lX11_75 wX11_refuse kC11 hu rfl (by first | rfl | assumption) rfl rfl rfl (qX11_refuse hu 1 (by decide) (by decide) _ (by decide)) (by decide) ?_
      exact kv_iret dX11_force_26 rfl (by rw [hS]; exact kOX.no hx ho hu (by decide) rfl)

set_option maxRecDepth 20000 in
set_option maxHeartbeats 4000000 in
theorem qX12_force {w : KW} {l : Launch} {u : KMem} (hu : kWd u) {a : KA} (hm : kRM a u) (ho : kOk a) (p0 p1 : Int32) : KC w l mX12_force 1 0 0 [.ref 413, .int p0, .int p1] u (kOM u (kforce a p0 p1).1 (kforce a p0 p1).2) := by
  have eg := hm.1
  have hg := ho.1
  have hx20 := (hg.cnt (k := 2) rfl).2
  have hc30 := (hg.cnt (k := 0) rfl).2
  have ht10 := (hg.cnt (k := 3) rfl).2
  have he40 := (hg.cnt (k := 4) rfl).2
  have hs16 := hg.cnt (k := 1) rfl
  refine KC.of (ls := [_, _, _, _]) rfl rfl (Nat.le_of_ble_eq_true rfl) ?_
  refine kv_iload_n dX12_force_0 rfl ?_
  refine kv_iconst dX12_force_1 0 ki_0 ?_
  refine kv_iconst dX12_force_2 2 ki_2 ?_
  refine kw_Si [_, _, _] mX12_within dX12_force_3 lX12_78 wX12_within rfl rfl rfl (qX12_within hu _ _ _) (by decide) ?_
  refine kw_beq dX12_force_6 20 (by decide) (fun h1 => ?_) (fun h1 => ?_)
  · have hS : kforce a p0 p1 = (-1000001, kF a 1) := if_pos (Or.inl (kIn_n h1))
    refine kv_aload_n dX12_force_20 rfl ?_
    refine kv_ldc dX12_force_21 kX12_83 ?_
    refine kw_Vi [_] mX12_finding dX12_force_23 lX12_84 wX12_finding kC12 hu rfl (by first | rfl | assumption) rfl rfl rfl (qX12_finding hu 1 (by decide) (by decide) _ (by decide)) (by decide) ?_
    exact kv_iret dX12_force_26 rfl (by rw [hS]; exact kOM.no hm hu rfl)
  · have n1 : ¬ kOut p0 0 2 := kIn_y h1
    refine kv_iload_n dX12_force_9 rfl ?_
    refine kv_iconst dX12_force_10 0 ki_0 ?_
    refine kv_sipush dX12_force_11 999 kz_999 ?_
    refine kw_Si [_, _, _] mX12_within dX12_force_14 lX12_78 wX12_within rfl rfl rfl (qX12_within hu _ _ _) (by decide) ?_
    refine kw_bne dX12_force_17 27 (by decide) (fun h2 => ?_) (fun h2 => ?_)
    · have n2 : ¬ kOut p1 0 999 := kIn_y h2
      have hS : kforce a p0 p1 = _ := if_neg (fun q => q.elim n1 n2)
      refine kv_aload_n dX12_force_27 rfl ?_
      refine kv_iload_n dX12_force_28 rfl ?_
      refine kv_iload_n dX12_force_29 rfl ?_
      refine kw_Vi [_, _] mX12_inForce dX12_force_30 lX12_142 wX12_inForce kC12 hu rfl (by first | rfl | assumption) rfl rfl rfl (gX12_inForce hu eg hg _ _) (by decide) ?_
      refine kv_istore_n (ls2 := [_, _, _, _]) dX12_force_33 rfl rfl rfl rfl ?_
      refine kv_iload_n dX12_force_34 rfl ?_
      refine kv_if_ge dX12_force_35 48 (by decide) (fun h3 => ?_) (fun h3 => ?_)
      · rw [if_pos h3] at hS
        refine kv_iload_n dX12_force_48 rfl ?_
        exact kv_iret dX12_force_49 rfl (by first | (rw [hS]; exact kOM.id hm hu kEq.rf rfl) | (rw [hS]; exact kOM.no hm hu rfl))
      · rw [if_neg h3] at hS
        refine kv_aload_n dX12_force_38 rfl ?_
        refine kv_ldcw dX12_force_39 kX12_287 ?_
        refine kw_Vi [_] mX12_finding dX12_force_42 lX12_84 wX12_finding kC12 hu rfl (by first | rfl | assumption) rfl rfl rfl (qX12_finding hu 2 (by decide) (by decide) _ (by decide)) (by decide) ?_
        refine kv_goto dX12_force_45 49 (by decide) ?_
        exact kv_iret dX12_force_49 rfl (by first | (rw [hS]; exact kOM.id hm hu kEq.rf rfl) | (rw [hS]; exact kOM.no hm hu rfl))
    · have hS : kforce a p0 p1 = (-1000001, kF a 1) := if_pos (Or.inr (kIn_n h2))
      refine kv_aload_n dX12_force_20 rfl ?_
      refine kv_ldc dX12_force_21 kX12_83 ?_
      refine kw_Vi [_] mX12_finding dX12_force_23 lX12_84 wX12_finding kC12 hu rfl (by first | rfl | assumption) rfl rfl rfl (qX12_finding hu 1 (by decide) (by decide) _ (by decide)) (by decide) ?_
      exact kv_iret dX12_force_26 rfl (by rw [hS]; exact kOM.no hm hu rfl)

set_option maxRecDepth 20000 in
set_option maxHeartbeats 4000000 in
theorem qX11_says {w : KW} {l : Launch} {u : KMem} (hu : kWd u) {a : KA} (hx : kRX a u) (ho : kOk a) (p0 p1 p2 p3 p4 : Int32) : KC w l mX11_says 3 0 0 [.ref 0, .int p0, .int p1, .int p2, .int p3, .int p4] u (kOX u (ksays a p0 p1 p2 p3 p4).1 (ksays a p0 p1 p2 p3 p4).2) := by
  have hr := hx.1
  have hg := ho.1
  have hx20 := (hg.cnt (k := 2) rfl).2
  have hc30 := (hg.cnt (k := 0) rfl).2
  have ht10 := (hg.cnt (k := 3) rfl).2
  have he40 := (hg.cnt (k := 4) rfl).2
  have hs16 := hg.cnt (k := 1) rfl
  refine KC.of (ls := [_, _, _, _, _, _]) rfl rfl (Nat.le_of_ble_eq_true rfl) ?_
  refine kv_iload_n dX11_says_0 rfl ?_
  refine kv_iconst dX11_says_1 0 ki_0 ?_
  refine kv_aload_n dX11_says_2 rfl ?_
  refine kw_gR dX11_says_3 fX11_12 hu (by first | rfl | assumption) rfl rfl (by first | rfl | assumption) ?_
  refine kw_gI dX11_says_6 fX11_228 hu (by first | rfl | assumption) rfl rfl ?_
  rw [hr.n3]
  refine kv_iconst dX11_says_9 1 ki_1 ?_
  refine kv_isub dX11_says_10 ?_
  refine kw_Si [_, _, _] mX11_outside dX11_says_11 lX11_69 wX11_outside rfl rfl rfl (qX11_outside hu _ _ _) (by decide) ?_
  refine kw_beq dX11_says_14 24 (by decide) (fun h1 => ?_) (fun h1 => ?_)
  · have n1 : ¬ kOut p0 0 (a 0 3 - 1) := h1
    have hS : ksays a p0 p1 p2 p3 p4 = _ := if_neg n1
    obtain ⟨t, ht, rfl⟩ := hg.at (k := 3) rfl n1
    rw [nI_clamp (by omega)] at hS
    refine kv_aload_n dX11_says_24 rfl ?_
    refine kw_gR dX11_says_25 fX11_24 hu (by first | rfl | assumption) rfl rfl (by first | rfl | assumption) ?_
    refine kv_iload_n dX11_says_28 rfl ?_
    refine kv_iload_n dX11_says_29 rfl ?_
    refine kv_iload dX11_says_30 rfl ?_
    refine kv_iload dX11_says_32 rfl ?_
    refine kw_VQ [_, _, _, _] mX3_name dX11_says_34 lX11_249 wX3_name kC3 hu rfl (by first | rfl | assumption) rfl rfl rfl (qX3_name hu _ _ _ _) (by decide) (fun _ v1 q1 => ?_)
    obtain ⟨rfl, e1, na, nb, nc, nd⟩ := q1
    have hr1 := hr.eqX hg e1
    have hu1 := e1.wd hu
    have E1 := e1
    refine kv_aload_n dX11_says_37 rfl ?_
    refine kw_gR dX11_says_38 fX11_24 hu1 (by first | rfl | assumption) rfl rfl (by first | rfl | assumption) ?_
    refine kv_iload_n dX11_says_41 rfl ?_
    refine kw_Vpi [_] mX3_follow dX11_says_42 lX11_252 wX3_follow kC3 hu1 rfl (by first | rfl | assumption) rfl rfl rfl (qX3_follow hu1 hr1 hg t ht na nb nc nd) (by decide) (fun v2 e2 => ?_)
    have hu2 := e2.wd hu1
    have E2 := E1.tr e2
    exact kv_iret dX11_says_45 rfl (by rw [hS]; exact kOX.id hx ho hu E2 rfl)
  · have hS : ksays a p0 p1 p2 p3 p4 = (-1000001, kF a 1) := if_pos h1
    refine kv_aload_n dX11_says_17 rfl ?_
    refine kv_ldc dX11_says_18 kX11_74 ?_
    refine kw_Vi [_] mX11_refuse dX11_says_20 lX11_75 wX11_refuse kC11 hu rfl (by first | rfl | assumption) rfl rfl rfl (qX11_refuse hu 1 (by decide) (by decide) _ (by decide)) (by decide) ?_
    exact kv_iret dX11_says_23 rfl (by rw [hS]; exact kOX.no hx ho hu (by decide) rfl)

set_option maxRecDepth 20000 in
set_option maxHeartbeats 4000000 in
theorem qX12_says {w : KW} {l : Launch} {u : KMem} (hu : kWd u) {a : KA} (hm : kRM a u) (ho : kOk a) (p0 p1 p2 p3 p4 : Int32) : KC w l mX12_says 3 0 0 [.ref 413, .int p0, .int p1, .int p2, .int p3, .int p4] u (kOM u (ksays a p0 p1 p2 p3 p4).1 (ksays a p0 p1 p2 p3 p4).2) := by
  have eg := hm.1
  have hg := ho.1
  have hx20 := (hg.cnt (k := 2) rfl).2
  have hc30 := (hg.cnt (k := 0) rfl).2
  have ht10 := (hg.cnt (k := 3) rfl).2
  have he40 := (hg.cnt (k := 4) rfl).2
  have hs16 := hg.cnt (k := 1) rfl
  refine KC.of (ls := [_, _, _, _, _, _]) rfl rfl (Nat.le_of_ble_eq_true rfl) ?_
  refine kv_aload_n dX12_says_0 rfl ?_
  refine kv_iload_n dX12_says_1 rfl ?_
  refine kv_iconst dX12_says_2 3 ki_3 ?_
  refine kw_Vi [_, _] mX12_is dX12_says_3 lX12_93 wX12_is kC12 hu rfl (by first | rfl | assumption) rfl rfl rfl (gX12_is hu eg _ 3 (by omega)) (by decide) ?_
  refine kw_beq dX12_says_6 23 (by decide) (fun h1 => ?_) (fun h1 => ?_)
  · have hS : ksays a p0 p1 p2 p3 p4 = (-1000001, kF a 1) := if_pos (kIn_n h1)
    refine kv_aload_n dX12_says_23 rfl ?_
    refine kv_ldc dX12_says_24 kX12_83 ?_
    refine kw_Vi [_] mX12_finding dX12_says_26 lX12_84 wX12_finding kC12 hu rfl (by first | rfl | assumption) rfl rfl rfl (qX12_finding hu 1 (by decide) (by decide) _ (by decide)) (by decide) ?_
    exact kv_iret dX12_says_29 rfl (by first | (rw [hS]; exact kOM.id hm hu kEq.rf rfl) | (rw [hS]; exact kOM.no hm hu rfl))
  · have n1 : ¬ kOut p0 0 (a 0 3 - 1) := kIn_y h1
    have hS : ksays a p0 p1 p2 p3 p4 = _ := if_neg n1
    obtain ⟨t, ht, rfl⟩ := hg.at (k := 3) rfl n1
    rw [nI_clamp (by omega)] at hS
    refine kv_aload_n dX12_says_9 rfl ?_
    refine kv_iload_n dX12_says_10 rfl ?_
    refine kv_iload_n dX12_says_11 rfl ?_
    refine kv_iload_n dX12_says_12 rfl ?_
    refine kv_iload dX12_says_13 rfl ?_
    refine kv_iload dX12_says_15 rfl ?_
    refine kw_Vpi [_, _, _, _, _] mX12_given dX12_says_17 lX12_152 wX12_given kC12 hu rfl (by first | rfl | assumption) rfl rfl rfl (gX12_given hu eg hg t ht _ _ _ _) (by decide) (fun v1 e1 => ?_)
    have hu1 := e1.wd hu
    have E1 := e1
    have eg1 : v1.2.1 414 = a 0 := (E1.row kSM_now).trans eg
    refine kv_goto dX12_says_20 29 (by decide) ?_
    exact kv_iret dX12_says_29 rfl (by first | (rw [hS]; exact kOM.id hm hu E1 rfl) | (rw [hS]; exact kOM.no hm hu rfl))

set_option maxRecDepth 20000 in
set_option maxHeartbeats 4000000 in
theorem qX11_told {w : KW} {l : Launch} {u : KMem} (hu : kWd u) {a : KA} (hx : kRX a u) (ho : kOk a) (p0 : Int32) : KC w l mX11_told 1 0 0 [.ref 0, .int p0] u (kOX u (ktold a p0).1 (ktold a p0).2) := by
  have hr := hx.1
  have hg := ho.1
  have hx20 := (hg.cnt (k := 2) rfl).2
  have hc30 := (hg.cnt (k := 0) rfl).2
  have ht10 := (hg.cnt (k := 3) rfl).2
  have he40 := (hg.cnt (k := 4) rfl).2
  have hs16 := hg.cnt (k := 1) rfl
  refine KC.of (ls := [_, _]) rfl rfl (Nat.le_of_ble_eq_true rfl) ?_
  refine kv_iload_n dX11_told_0 rfl ?_
  refine kv_iconst dX11_told_1 1 ki_1 ?_
  refine kv_bipush dX11_told_2 6 kb_6 ?_
  refine kw_Si [_, _, _] mX11_outside dX11_told_4 lX11_69 wX11_outside rfl rfl rfl (qX11_outside hu _ _ _) (by decide) ?_
  refine kw_beq dX11_told_7 17 (by decide) (fun h1 => ?_) (fun h1 => ?_)
  · have n1 : ¬ kOut p0 1 6 := h1
    have hS : ktold a p0 = _ := if_neg n1
    obtain ⟨j, hj1, hj, rfl⟩ := kOut.b1 (n := 6) (by omega) n1
    rw [nI_clamp (by omega)] at hS
    refine kv_aload_n dX11_told_17 rfl ?_
    refine kw_gR dX11_told_18 fX11_64 hu (by first | rfl | assumption) rfl rfl (by first | rfl | assumption) ?_
    refine kv_iload_n dX11_told_21 rfl ?_
    refine kw_il dX11_told_22 hu (by first | rfl | assumption) (j) rfl (by omega) rfl ?_
    rw [hx.2.2.2.1 j (by omega)]
    exact kv_iret dX11_told_23 rfl (by rw [hS]; exact kOX.id hx ho hu kEq.rf rfl)
  · have hS : ktold a p0 = (-1000001, kF a 1) := if_pos h1
    refine kv_aload_n dX11_told_10 rfl ?_
    refine kv_ldc dX11_told_11 kX11_74 ?_
    refine kw_Vi [_] mX11_refuse dX11_told_13 lX11_75 wX11_refuse kC11 hu rfl (by first | rfl | assumption) rfl rfl rfl (qX11_refuse hu 1 (by decide) (by decide) _ (by decide)) (by decide) ?_
    exact kv_iret dX11_told_16 rfl (by rw [hS]; exact kOX.no hx ho hu (by decide) rfl)

set_option maxRecDepth 20000 in
set_option maxHeartbeats 4000000 in
theorem qX12_told {w : KW} {l : Launch} {u : KMem} (hu : kWd u) {a : KA} (hm : kRM a u) (ho : kOk a) (p0 : Int32) : KC w l mX12_told 1 0 0 [.ref 413, .int p0] u (kOM u (ktold a p0).1 (ktold a p0).2) := by
  have eg := hm.1
  have hg := ho.1
  have hx20 := (hg.cnt (k := 2) rfl).2
  have hc30 := (hg.cnt (k := 0) rfl).2
  have ht10 := (hg.cnt (k := 3) rfl).2
  have he40 := (hg.cnt (k := 4) rfl).2
  have hs16 := hg.cnt (k := 1) rfl
  refine KC.of (ls := [_, _]) rfl rfl (Nat.le_of_ble_eq_true rfl) ?_
  refine kv_iload_n dX12_told_0 rfl ?_
  refine kv_iconst dX12_told_1 1 ki_1 ?_
  refine kv_bipush dX12_told_2 6 kb_6 ?_
  refine kw_Si [_, _, _] mX12_within dX12_told_4 lX12_78 wX12_within rfl rfl rfl (qX12_within hu _ _ _) (by decide) ?_
  refine kw_beq dX12_told_7 19 (by decide) (fun h1 => ?_) (fun h1 => ?_)
  · have hS : ktold a p0 = (-1000001, kF a 1) := if_pos (kIn_n h1)
    refine kv_aload_n dX12_told_19 rfl ?_
    refine kv_ldc dX12_told_20 kX12_83 ?_
    refine kw_Vi [_] mX12_finding dX12_told_22 lX12_84 wX12_finding kC12 hu rfl (by first | rfl | assumption) rfl rfl rfl (qX12_finding hu 1 (by decide) (by decide) _ (by decide)) (by decide) ?_
    exact kv_iret dX12_told_25 rfl (by first | (rw [hS]; exact kOM.id hm hu kEq.rf rfl) | (rw [hS]; exact kOM.no hm hu rfl))
  · have n1 : ¬ kOut p0 1 6 := kIn_y h1
    have hS : ktold a p0 = _ := if_neg n1
    obtain ⟨j, hj1, hj, rfl⟩ := kOut.b1 (n := 6) (by omega) n1
    rw [nI_clamp (by omega)] at hS
    refine kv_aload_n dX12_told_10 rfl ?_
    refine kw_gR dX12_told_11 fX12_16 hu (by first | rfl | assumption) rfl rfl (by first | rfl | assumption) ?_
    refine kv_iload_n dX12_told_14 rfl ?_
    refine kw_il dX12_told_15 hu (by first | rfl | assumption) (j) rfl (by omega) rfl ?_
    rw [hm.2.2.2.1]
    refine kv_goto dX12_told_16 25 (by decide) ?_
    exact kv_iret dX12_told_25 rfl (by first | (rw [hS]; exact kOM.id hm hu kEq.rf rfl) | (rw [hS]; exact kOM.no hm hu rfl))

