set_option maxRecDepth 20000 in
set_option maxHeartbeats 4000000 in
theorem qX11_carIs {w : KW} {l : Launch} {u : KMem} (hu : kWd u) {a : KA} (hx : kRX a u) (ho : kOk a) (p0 p1 : Int32) : KC w l mX11_carIs 2 0 0 [.ref 0, .int p0, .int p1] u (kOX u (kcarIs a p0 p1).1 (kcarIs a p0 p1).2) := by
  have hr := hx.1
  have hg := ho.1
  have hx20 := (hg.cnt (k := 2) rfl).2
  have hc30 := (hg.cnt (k := 0) rfl).2
  have ht10 := (hg.cnt (k := 3) rfl).2
  have he40 := (hg.cnt (k := 4) rfl).2
  have hs16 := hg.cnt (k := 1) rfl
  refine KC.of (ls := [_, _, _, _]) rfl rfl (Nat.le_of_ble_eq_true rfl) ?_
  refine kv_aload_n dX11_carIs_0 rfl ?_
  refine kv_iload_n dX11_carIs_1 rfl ?_
  refine kw_Vi [_] mX11_noCar dX11_carIs_2 lX11_94 wX11_noCar kC11 hu rfl (by first | rfl | assumption) rfl rfl rfl (qX11_noCar hu _) (by decide) ?_
  refine kw_bne dX11_carIs_5 18 (by decide) (fun h1 => ?_) (fun h1 => ?_)
  · rw [hr.n0] at h1
    have hS : kcarIs a p0 p1 = (-1000001, kF a 1) := if_pos (Or.inl h1)
    refine kv_aload_n dX11_carIs_18 rfl ?_
    refine kv_ldc dX11_carIs_19 kX11_74 ?_
    refine kw_Vi [_] mX11_refuse dX11_carIs_21 lX11_75 wX11_refuse kC11 hu rfl (by first | rfl | assumption) rfl rfl rfl (qX11_refuse hu 1 (by decide) (by decide) _ (by decide)) (by decide) ?_
    exact kv_iret dX11_carIs_24 rfl (by rw [hS]; exact kOX.no hx ho hu (by decide) rfl)
  · rw [hr.n0] at h1
    have n1 : ¬ kOut p0 0 (a 0 0 - 1) := h1
    refine kv_iload_n dX11_carIs_8 rfl ?_
    refine kv_iconst dX11_carIs_9 0 ki_0 ?_
    refine kv_bipush dX11_carIs_10 8 kb_8 ?_
    refine kw_Si [_, _, _] mX11_outside dX11_carIs_12 lX11_69 wX11_outside rfl rfl rfl (qX11_outside hu _ _ _) (by decide) ?_
    refine kw_beq dX11_carIs_15 25 (by decide) (fun h2 => ?_) (fun h2 => ?_)
    · have n2 : ¬ kOut p1 0 8 := h2
      have hS : kcarIs a p0 p1 = _ := if_neg (fun q => q.elim n1 n2)
      obtain ⟨c, hc, rfl⟩ := hg.at (k := 0) rfl n1
      have kc := ks_car c (by omega)
      have kc1 := kc.1
      have kc2 := kc.2.1
      have kc3 := kc.2.2.1
      have kc4 := kc.2.2.2
      rw [nI_clamp (by omega)] at hS
      refine kv_aload_n dX11_carIs_25 rfl ?_
      refine kw_gR dX11_carIs_26 fX11_12 hu (by first | rfl | assumption) rfl rfl (by first | rfl | assumption) ?_
      refine kw_gR dX11_carIs_29 fX11_84 hu (by first | rfl | assumption) rfl rfl (by first | rfl | assumption) ?_
      refine kv_iload_n dX11_carIs_32 rfl ?_
      refine kw_al (t := 0) (n := 30) dX11_carIs_33 hu rfl rfl (c) rfl (by omega) rfl (by first | rfl | assumption) ?_
      refine kv_astore_n (ls2 := [_, _, _, _]) dX11_carIs_34 rfl rfl rfl rfl ?_
      refine kv_iload_n dX11_carIs_35 rfl ?_
      by_cases h3 : p1.toInt < 0 ∨ 5 < p1.toInt
      · refine kv_tableOut dX11_carIs_36 110 h3 (by decide) ?_
        obtain ⟨m, hm, rfl⟩ : ∃ m, m < 3 ∧ p1 = nI (6 + m) := by
          obtain ⟨j, hj, rfl⟩ := kOut.bd (n := 8) (by omega) n2
          have e := nI_toInt (n := j) (by omega)
          exact ⟨j - 6, by omega, by congr 1; omega⟩
        refine kv_aload_n dX11_carIs_110 rfl ?_
        refine kw_gR dX11_carIs_111 fX11_117 hu (by first | rfl | assumption) rfl rfl (by first | rfl | assumption) ?_
        refine kv_iload_n dX11_carIs_114 rfl ?_
        refine kv_bipush dX11_carIs_115 6 kb_6 ?_
        refine kv_isub dX11_carIs_117 ?_
        refine kw_il dX11_carIs_118 hu (by first | rfl | assumption) (m) ((kn_sub rfl (show (6 : Int32) = nI 6 from rfl) (by omega)).trans (by congr 1; omega)) (by omega) rfl ?_
        rw [hr.mark hc hm]
        exact kv_iret dX11_carIs_119 rfl (by rw [hS]; exact kOX.id hx ho hu kEq.rf (by unfold kCarV; rw [if_neg (show ¬ nI (6 + m) = 5 from fun q => by have := (kn_eq (b := 5) (by omega) (by omega)).mp q; omega), if_neg (show ¬ nI (6 + m) < 5 from nI_nlt (b := 5) (by omega) (by omega)), nI_clamp (by omega)]; congr 1; omega))
      · rcases (show p1.toInt = 0 ∨ p1.toInt = 1 ∨ p1.toInt = 2 ∨ p1.toInt = 3 ∨ p1.toInt = 4 ∨ p1.toInt = 5 by omega) with hv | hv | hv | hv | hv | hv
        · obtain rfl : p1 = 0 := kn_i32 (by rw [hv]; decide)
          refine kv_tableIn dX11_carIs_36 76 (by decide) (by decide) rfl (by decide) ?_
          refine kv_aload_n dX11_carIs_76 rfl ?_
          refine kw_gI dX11_carIs_77 fX11_98 hu (by first | rfl | assumption) rfl rfl ?_
          rw [hr.car hc 0 (by decide)]
          exact kv_iret dX11_carIs_80 rfl (by rw [hS]; exact kOX.id hx ho hu kEq.rf rfl)
        · obtain rfl : p1 = 1 := kn_i32 (by rw [hv]; decide)
          refine kv_tableIn dX11_carIs_36 81 (by decide) (by decide) rfl (by decide) ?_
          refine kv_aload_n dX11_carIs_81 rfl ?_
          refine kw_gI dX11_carIs_82 fX11_101 hu (by first | rfl | assumption) rfl rfl ?_
          rw [hr.car hc 1 (by decide)]
          exact kv_iret dX11_carIs_85 rfl (by rw [hS]; exact kOX.id hx ho hu kEq.rf rfl)
        · obtain rfl : p1 = 2 := kn_i32 (by rw [hv]; decide)
          refine kv_tableIn dX11_carIs_36 86 (by decide) (by decide) rfl (by decide) ?_
          refine kv_aload_n dX11_carIs_86 rfl ?_
          refine kw_gI dX11_carIs_87 fX11_104 hu (by first | rfl | assumption) rfl rfl ?_
          rw [hr.car hc 2 (by decide)]
          exact kv_iret dX11_carIs_90 rfl (by rw [hS]; exact kOX.id hx ho hu kEq.rf rfl)
        · obtain rfl : p1 = 3 := kn_i32 (by rw [hv]; decide)
          refine kv_tableIn dX11_carIs_36 91 (by decide) (by decide) rfl (by decide) ?_
          refine kv_aload_n dX11_carIs_91 rfl ?_
          refine kw_gI dX11_carIs_92 fX11_107 hu (by first | rfl | assumption) rfl rfl ?_
          rw [hr.car hc 3 (by decide)]
          exact kv_iret dX11_carIs_95 rfl (by rw [hS]; exact kOX.id hx ho hu kEq.rf rfl)
        · obtain rfl : p1 = 4 := kn_i32 (by rw [hv]; decide)
          refine kv_tableIn dX11_carIs_36 96 (by decide) (by decide) rfl (by decide) ?_
          refine kv_aload_n dX11_carIs_96 rfl ?_
          refine kw_gI dX11_carIs_97 fX11_110 hu (by first | rfl | assumption) rfl rfl ?_
          rw [hr.car hc 4 (by decide)]
          exact kv_iret dX11_carIs_100 rfl (by rw [hS]; exact kOX.id hx ho hu kEq.rf rfl)
        · obtain rfl : p1 = 5 := kn_i32 (by rw [hv]; decide)
          refine kv_tableIn dX11_carIs_36 101 (by decide) (by decide) rfl (by decide) ?_
          refine kv_aload_n dX11_carIs_101 rfl ?_
          refine kw_gR dX11_carIs_102 fX11_24 hu (by first | rfl | assumption) rfl rfl (by first | rfl | assumption) ?_
          refine kv_aload_n dX11_carIs_105 rfl ?_
          refine kw_Vi [_] mX3_book dX11_carIs_106 lX11_113 wX3_book kC3 hu rfl (by first | rfl | assumption) rfl rfl rfl (qX3_book hu hr hg c hc) (by decide) ?_
          exact kv_iret dX11_carIs_109 rfl (by rw [hS]; exact kOX.id hx ho hu kEq.rf rfl)
    · have hS : kcarIs a p0 p1 = (-1000001, kF a 1) := if_pos (Or.inr h2)
      refine kv_aload_n dX11_carIs_18 rfl ?_
      refine kv_ldc dX11_carIs_19 kX11_74 ?_
      refine kw_Vi [_] mX11_refuse dX11_carIs_21 lX11_75 wX11_refuse kC11 hu rfl (by first | rfl | assumption) rfl rfl rfl (qX11_refuse hu 1 (by decide) (by decide) _ (by decide)) (by decide) ?_
      exact kv_iret dX11_carIs_24 rfl (by rw [hS]; exact kOX.no hx ho hu (by decide) rfl)

set_option maxRecDepth 20000 in
set_option maxHeartbeats 4000000 in
theorem qX12_carIs {w : KW} {l : Launch} {u : KMem} (hu : kWd u) {a : KA} (hm : kRM a u) (ho : kOk a) (p0 p1 : Int32) : KC w l mX12_carIs 2 0 0 [.ref 413, .int p0, .int p1] u (kOM u (kcarIs a p0 p1).1 (kcarIs a p0 p1).2) := by
  have eg := hm.1
  have hg := ho.1
  have hx20 := (hg.cnt (k := 2) rfl).2
  have hc30 := (hg.cnt (k := 0) rfl).2
  have ht10 := (hg.cnt (k := 3) rfl).2
  have he40 := (hg.cnt (k := 4) rfl).2
  have hs16 := hg.cnt (k := 1) rfl
  refine KC.of (ls := [_, _, _]) rfl rfl (Nat.le_of_ble_eq_true rfl) ?_
  refine kv_aload_n dX12_carIs_0 rfl ?_
  refine kv_iload_n dX12_carIs_1 rfl ?_
  refine kv_iconst dX12_carIs_2 0 ki_0 ?_
  refine kw_Vi [_, _] mX12_is dX12_carIs_3 lX12_93 wX12_is kC12 hu rfl (by first | rfl | assumption) rfl rfl rfl (gX12_is hu eg _ 0 (by omega)) (by decide) ?_
  refine kw_beq dX12_carIs_6 19 (by decide) (fun h1 => ?_) (fun h1 => ?_)
  · have hS : kcarIs a p0 p1 = (-1000001, kF a 1) := if_pos (Or.inl (kIn_n h1))
    refine kv_aload_n dX12_carIs_19 rfl ?_
    refine kv_ldc dX12_carIs_20 kX12_83 ?_
    refine kw_Vi [_] mX12_finding dX12_carIs_22 lX12_84 wX12_finding kC12 hu rfl (by first | rfl | assumption) rfl rfl rfl (qX12_finding hu 1 (by decide) (by decide) _ (by decide)) (by decide) ?_
    exact kv_iret dX12_carIs_25 rfl (by rw [hS]; exact kOM.no hm hu rfl)
  · have n1 : ¬ kOut p0 0 (a 0 0 - 1) := kIn_y h1
    refine kv_iload_n dX12_carIs_9 rfl ?_
    refine kv_iconst dX12_carIs_10 0 ki_0 ?_
    refine kv_bipush dX12_carIs_11 8 kb_8 ?_
    refine kw_Si [_, _, _] mX12_within dX12_carIs_13 lX12_78 wX12_within rfl rfl rfl (qX12_within hu _ _ _) (by decide) ?_
    refine kw_bne dX12_carIs_16 26 (by decide) (fun h2 => ?_) (fun h2 => ?_)
    · have n2 : ¬ kOut p1 0 8 := kIn_y h2
      have hS : kcarIs a p0 p1 = _ := if_neg (fun q => q.elim n1 n2)
      obtain ⟨c, hc, rfl⟩ := hg.at (k := 0) rfl n1
      rw [nI_clamp (by omega)] at hS
      obtain ⟨j, hj, rfl⟩ := kOut.bd (n := 8) (by omega) n2
      unfold kCarV at hS
      rw [nI_clamp (by omega)] at hS
      refine kv_iload_n dX12_carIs_26 rfl ?_
      refine kv_iconst dX12_carIs_27 5 ki_5 ?_
      refine kv_icmp_ne dX12_carIs_28 39 (by decide) (fun h3 => ?_) (fun h3 => ?_)
      · rw [if_neg h3] at hS
        refine kv_aload_n dX12_carIs_39 rfl ?_
        refine kv_iload_n dX12_carIs_40 rfl ?_
        refine kv_iload_n dX12_carIs_41 rfl ?_
        refine kv_iconst dX12_carIs_42 5 ki_5 ?_
        refine kv_icmp_ge dX12_carIs_43 50 (by decide) (fun h4 => ?_) (fun h4 => ?_)
        · have j5 : ¬ j = 5 := fun q => by subst q; contradiction
          have j6 : 5 ≤ j := (nI_leI (by omega) (by omega)).mp h4
          rw [if_neg (show ¬ nI j < 5 from nI_nlt (b := 5) j6 (by omega))] at hS
          refine kv_iload_n dX12_carIs_50 rfl ?_
          refine kv_iconst dX12_carIs_51 1 ki_1 ?_
          refine kv_isub dX12_carIs_52 ?_
          first | rw [show nI j - 1 = nI (j - 1) from kn_sub rfl (show (1 : Int32) = nI 1 from rfl) (by omega)] | skip
          refine kw_Vi [_, _] mX12_car dX12_carIs_53 lX12_89 wX12_car kC12 hu rfl (by first | rfl | assumption) rfl rfl rfl (gX12_car hu eg c _ (by omega) (by omega)) (by decide) ?_
          exact kv_iret dX12_carIs_56 rfl (by rw [hS]; exact kOM.id hm hu kEq.rf rfl)
        · have j6 : j < 5 := Nat.not_le.mp (fun q => h4 (nI_le q (by omega)))
          rw [if_pos (show nI j < 5 from nI_lt (b := 5) j6 (by omega))] at hS
          refine kv_iload_n dX12_carIs_46 rfl ?_
          refine kv_goto dX12_carIs_47 53 (by decide) ?_
          first | rw [show nI j - 1 = nI (j - 1) from kn_sub rfl (show (1 : Int32) = nI 1 from rfl) (by omega)] | skip
          refine kw_Vi [_, _] mX12_car dX12_carIs_53 lX12_89 wX12_car kC12 hu rfl (by first | rfl | assumption) rfl rfl rfl (gX12_car hu eg c _ (by omega) (by omega)) (by decide) ?_
          exact kv_iret dX12_carIs_56 rfl (by rw [hS]; exact kOM.id hm hu kEq.rf rfl)
      · rw [if_pos h3] at hS
        refine kv_aload_n dX12_carIs_31 rfl ?_
        refine kv_iload_n dX12_carIs_32 rfl ?_
        refine kw_Vi [_] mX12_bookOf dX12_carIs_33 lX12_97 wX12_bookOf kC12 hu rfl (by first | rfl | assumption) rfl rfl rfl (gX12_bookOf hu eg hg c hc) (by decide) ?_
        refine kv_goto dX12_carIs_36 56 (by decide) ?_
        exact kv_iret dX12_carIs_56 rfl (by rw [hS]; exact kOM.id hm hu kEq.rf rfl)
    · have hS : kcarIs a p0 p1 = (-1000001, kF a 1) := if_pos (Or.inr (kIn_n h2))
      refine kv_aload_n dX12_carIs_19 rfl ?_
      refine kv_ldc dX12_carIs_20 kX12_83 ?_
      refine kw_Vi [_] mX12_finding dX12_carIs_22 lX12_84 wX12_finding kC12 hu rfl (by first | rfl | assumption) rfl rfl rfl (qX12_finding hu 1 (by decide) (by decide) _ (by decide)) (by decide) ?_
      exact kv_iret dX12_carIs_25 rfl (by rw [hS]; exact kOM.no hm hu rfl)

