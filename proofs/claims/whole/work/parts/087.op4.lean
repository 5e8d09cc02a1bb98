theorem kT7 : (7 : Int32).toInt = 7 := by decide
noncomputable def kEnV (g : Nat → Int32) (e : Nat) (p : Int32) : Int32 := if p < 5 then g (1128 + 5 * e + p.toNatClampNeg) else if p = 5 then nI (kFst g e) else if p = 6 then @ite _ (kDisp g e) (Classical.propDecidable _) 1 0 else kKind g e
noncomputable def kentryIs (a : KA) (p0 p1 : Int32) : Int32 × KA := if kOut p0 0 (a 0 4 - 1) ∨ kOut p1 0 7 then (-1000001, kF a 1) else (kEnV (a 0) p0.toNatClampNeg p1, a)
def ktrace (a : KA) (p0 : Int32) : Int32 × KA := if kOut p0 0 (a 5 0 - 1) then (-1000002, kF a 2) else (a 4 p0.toNatClampNeg, a)
set_option maxRecDepth 20000 in
set_option maxHeartbeats 4000000 in
theorem qX11_entryIs {w : KW} {l : Launch} {u : KMem} (hu : kWd u) {a : KA} (hx : kRX a u) (ho : kOk a) (p0 p1 : Int32) : KC w l mX11_entryIs 7 0 0 [.ref 0, .int p0, .int p1] u (kOX u (kentryIs a p0 p1).1 (kentryIs a p0 p1).2) := by
  have hr := hx.1
  have hg := ho.1
  have hx20 := (hg.cnt (k := 2) rfl).2
  have hc30 := (hg.cnt (k := 0) rfl).2
  have ht10 := (hg.cnt (k := 3) rfl).2
  have he40 := (hg.cnt (k := 4) rfl).2
  have hs16 := hg.cnt (k := 1) rfl
  refine KC.of (ls := [_, _, _, _]) rfl rfl (Nat.le_of_ble_eq_true rfl) ?_
  refine kv_aload_n dX11_entryIs_0 rfl ?_
  refine kv_iload_n dX11_entryIs_1 rfl ?_
  refine kw_Vi [_] mX11_noEntry dX11_entryIs_2 lX11_273 wX11_noEntry kC11 hu rfl (by first | rfl | assumption) rfl rfl rfl (qX11_noEntry hu _) (by decide) ?_
  refine kw_bne dX11_entryIs_5 18 (by decide) (fun h1 => ?_) (fun h1 => ?_)
  · rw [hr.n4] at h1
    have hS : kentryIs a p0 p1 = (-1000001, kF a 1) := if_pos (Or.inl h1)
    refine kv_aload_n dX11_entryIs_18 rfl ?_
    refine kv_ldc dX11_entryIs_19 kX11_74 ?_
    refine kw_Vi [_] mX11_refuse dX11_entryIs_21 lX11_75 wX11_refuse kC11 hu rfl (by first | rfl | assumption) rfl rfl rfl (qX11_refuse hu 1 (by decide) (by decide) _ (by decide)) (by decide) ?_
    exact kv_iret dX11_entryIs_24 rfl (by rw [hS]; exact kOX.no hx ho hu (by decide) rfl)
  · rw [hr.n4] at h1
    have n1 : ¬ kOut p0 0 (a 0 4 - 1) := h1
    refine kv_iload_n dX11_entryIs_8 rfl ?_
    refine kv_iconst dX11_entryIs_9 0 ki_0 ?_
    refine kv_bipush dX11_entryIs_10 7 kb_7 ?_
    refine kw_Si [_, _, _] mX11_outside dX11_entryIs_12 lX11_69 wX11_outside rfl rfl rfl (qX11_outside hu _ _ _) (by decide) ?_
    refine kw_beq dX11_entryIs_15 25 (by decide) (fun h2 => ?_) (fun h2 => ?_)
    · have n2 : ¬ kOut p1 0 7 := h2
      have hS : kentryIs a p0 p1 = _ := if_neg (fun q => q.elim n1 n2)
      obtain ⟨e, he, rfl⟩ := hg.at (k := 4) rfl n1
      rw [nI_clamp (by omega)] at hS
      have ke := ks_entry e (by omega)
      have ke1 := ke.1
      have ke2 := ke.2
      refine kv_aload_n dX11_entryIs_25 rfl ?_
      refine kw_gR dX11_entryIs_26 fX11_12 hu (by first | rfl | assumption) rfl rfl (by first | rfl | assumption) ?_
      refine kw_gR dX11_entryIs_29 fX11_259 hu (by first | rfl | assumption) rfl rfl (by first | rfl | assumption) ?_
      refine kv_iload_n dX11_entryIs_32 rfl ?_
      refine kw_al (t := 3) (n := 40) dX11_entryIs_33 hu rfl rfl (e) rfl (by omega) rfl (by first | rfl | assumption) ?_
      refine kv_astore_n (ls2 := [_, _, _, _]) dX11_entryIs_34 rfl rfl rfl rfl ?_
      refine kv_iload_n dX11_entryIs_35 rfl ?_
      by_cases h3 : p1.toInt < 0 ∨ 6 < p1.toInt
      · refine kv_tableOut dX11_entryIs_36 127 h3 (by decide) ?_
        obtain rfl : p1 = 7 := kn_i32 (by have := kOut.i n2; rw [kT0, kT7] at this; rw [kT7]; omega)
        refine kv_aload_n dX11_entryIs_127 rfl ?_
        refine kw_gR dX11_entryIs_128 fX11_24 hu (by first | rfl | assumption) rfl rfl (by first | rfl | assumption) ?_
        refine kv_iload_n dX11_entryIs_131 rfl ?_
        refine kw_Vpi [_] mX3_kind dX11_entryIs_132 lX11_293 wX3_kind kC3 hu rfl (by first | rfl | assumption) rfl rfl rfl (qX3_kind hu hr hg e he) (by decide) (fun v1 e1 => ?_)
        have hu1 := e1.wd hu
        have E1 := e1
        exact kv_iret dX11_entryIs_135 rfl (by rw [hS]; exact kOX.id hx ho hu E1 rfl)
      · rcases (show p1.toInt = 0 ∨ p1.toInt = 1 ∨ p1.toInt = 2 ∨ p1.toInt = 3 ∨ p1.toInt = 4 ∨ p1.toInt = 5 ∨ p1.toInt = 6 by omega) with hv | hv | hv | hv | hv | hv | hv
        · obtain rfl : p1 = 0 := kn_i32 (by rw [hv]; decide)
          refine kv_tableIn dX11_entryIs_36 80 (by decide) (by decide) rfl (by decide) ?_
          refine kv_aload_n dX11_entryIs_80 rfl ?_
          refine kw_gI dX11_entryIs_81 fX11_276 hu (by first | rfl | assumption) rfl rfl ?_
          rw [hr.ent he 0 (by decide)]
          exact kv_iret dX11_entryIs_84 rfl (by rw [hS]; exact kOX.id hx ho hu kEq.rf rfl)
        · obtain rfl : p1 = 1 := kn_i32 (by rw [hv]; decide)
          refine kv_tableIn dX11_entryIs_36 85 (by decide) (by decide) rfl (by decide) ?_
          refine kv_aload_n dX11_entryIs_85 rfl ?_
          refine kw_gI dX11_entryIs_86 fX11_279 hu (by first | rfl | assumption) rfl rfl ?_
          rw [hr.ent he 1 (by decide)]
          exact kv_iret dX11_entryIs_89 rfl (by rw [hS]; exact kOX.id hx ho hu kEq.rf rfl)
        · obtain rfl : p1 = 2 := kn_i32 (by rw [hv]; decide)
          refine kv_tableIn dX11_entryIs_36 90 (by decide) (by decide) rfl (by decide) ?_
          refine kv_aload_n dX11_entryIs_90 rfl ?_
          refine kw_gI dX11_entryIs_91 fX11_282 hu (by first | rfl | assumption) rfl rfl ?_
          rw [hr.ent he 2 (by decide)]
          exact kv_iret dX11_entryIs_94 rfl (by rw [hS]; exact kOX.id hx ho hu kEq.rf rfl)
        · obtain rfl : p1 = 3 := kn_i32 (by rw [hv]; decide)
          refine kv_tableIn dX11_entryIs_36 95 (by decide) (by decide) rfl (by decide) ?_
          refine kv_aload_n dX11_entryIs_95 rfl ?_
          refine kw_gI dX11_entryIs_96 fX11_285 hu (by first | rfl | assumption) rfl rfl ?_
          rw [hr.ent he 3 (by decide)]
          exact kv_iret dX11_entryIs_99 rfl (by rw [hS]; exact kOX.id hx ho hu kEq.rf rfl)
        · obtain rfl : p1 = 4 := kn_i32 (by rw [hv]; decide)
          refine kv_tableIn dX11_entryIs_36 100 (by decide) (by decide) rfl (by decide) ?_
          refine kv_aload_n dX11_entryIs_100 rfl ?_
          refine kw_gI dX11_entryIs_101 fX11_288 hu (by first | rfl | assumption) rfl rfl ?_
          rw [hr.ent he 4 (by decide)]
          exact kv_iret dX11_entryIs_104 rfl (by rw [hS]; exact kOX.id hx ho hu kEq.rf rfl)
        · obtain rfl : p1 = 5 := kn_i32 (by rw [hv]; decide)
          refine kv_tableIn dX11_entryIs_36 105 (by decide) (by decide) rfl (by decide) ?_
          refine kv_aload_n dX11_entryIs_105 rfl ?_
          refine kw_gI dX11_entryIs_106 fX11_270 hu (by first | rfl | assumption) rfl rfl ?_
          rw [hr.efst he]
          exact kv_iret dX11_entryIs_109 rfl (by rw [hS]; exact kOX.id hx ho hu kEq.rf rfl)
        · obtain rfl : p1 = 6 := kn_i32 (by rw [hv]; decide)
          refine kv_tableIn dX11_entryIs_36 110 (by decide) (by decide) rfl (by decide) ?_
          refine kv_aload_n dX11_entryIs_110 rfl ?_
          refine kw_gR dX11_entryIs_111 fX11_24 hu (by first | rfl | assumption) rfl rfl (by first | rfl | assumption) ?_
          refine kv_aload_n dX11_entryIs_114 rfl ?_
          refine kw_Vpi [_] mX3_disputed dX11_entryIs_115 lX11_289 wX3_disputed kC3 hu rfl (by first | rfl | assumption) rfl rfl rfl (qX3_disputed hu hr hg e he) (by decide) (fun v1 e1 => ?_)
          have hu1 := e1.wd hu
          have E1 := e1
          refine kw_beq dX11_entryIs_118 125 (by decide) (fun h4 => ?_) (fun h4 => ?_)
          · have hT := h4
            refine kv_iconst dX11_entryIs_125 0 ki_0 ?_
            exact kv_iret dX11_entryIs_126 rfl (by rw [hS]; exact kOX.id hx ho hu E1 (by first | exact (if_pos hT).symm | exact (if_neg hT).symm))
          · have hT := h4
            refine kv_iconst dX11_entryIs_121 1 ki_1 ?_
            refine kv_goto dX11_entryIs_122 126 (by decide) ?_
            exact kv_iret dX11_entryIs_126 rfl (by rw [hS]; exact kOX.id hx ho hu E1 (by first | exact (if_pos hT).symm | exact (if_neg hT).symm))
    · have hS : kentryIs a p0 p1 = (-1000001, kF a 1) := if_pos (Or.inr h2)
      refine kv_aload_n dX11_entryIs_18 rfl ?_
      refine kv_ldc dX11_entryIs_19 kX11_74 ?_
      refine kw_Vi [_] mX11_refuse dX11_entryIs_21 lX11_75 wX11_refuse kC11 hu rfl (by first | rfl | assumption) rfl rfl rfl (qX11_refuse hu 1 (by decide) (by decide) _ (by decide)) (by decide) ?_
      exact kv_iret dX11_entryIs_24 rfl (by rw [hS]; exact kOX.no hx ho hu (by decide) rfl)

set_option maxRecDepth 20000 in
set_option maxHeartbeats 4000000 in
theorem qX12_entryIs {w : KW} {l : Launch} {u : KMem} (hu : kWd u) {a : KA} (hm : kRM a u) (ho : kOk a) (p0 p1 : Int32) : KC w l mX12_entryIs 10 0 0 [.ref 413, .int p0, .int p1] u (kOM u (kentryIs a p0 p1).1 (kentryIs a p0 p1).2) := by
  have eg := hm.1
  have hg := ho.1
  have hx20 := (hg.cnt (k := 2) rfl).2
  have hc30 := (hg.cnt (k := 0) rfl).2
  have ht10 := (hg.cnt (k := 3) rfl).2
  have he40 := (hg.cnt (k := 4) rfl).2
  have hs16 := hg.cnt (k := 1) rfl
  refine KC.of (ls := [_, _, _]) rfl rfl (Nat.le_of_ble_eq_true rfl) ?_
  refine kv_aload_n dX12_entryIs_0 rfl ?_
  refine kv_iload_n dX12_entryIs_1 rfl ?_
  refine kv_iconst dX12_entryIs_2 4 ki_4 ?_
  refine kw_Vi [_, _] mX12_is dX12_entryIs_3 lX12_93 wX12_is kC12 hu rfl (by first | rfl | assumption) rfl rfl rfl (gX12_is hu eg _ 4 (by omega)) (by decide) ?_
  refine kw_beq dX12_entryIs_6 19 (by decide) (fun h1 => ?_) (fun h1 => ?_)
  · have hS : kentryIs a p0 p1 = (-1000001, kF a 1) := if_pos (Or.inl (kIn_n h1))
    refine kv_aload_n dX12_entryIs_19 rfl ?_
    refine kv_ldc dX12_entryIs_20 kX12_83 ?_
    refine kw_Vi [_] mX12_finding dX12_entryIs_22 lX12_84 wX12_finding kC12 hu rfl (by first | rfl | assumption) rfl rfl rfl (qX12_finding hu 1 (by decide) (by decide) _ (by decide)) (by decide) ?_
    exact kv_iret dX12_entryIs_25 rfl (by rw [hS]; exact kOM.no hm hu rfl)
  · have n1 : ¬ kOut p0 0 (a 0 4 - 1) := kIn_y h1
    refine kv_iload_n dX12_entryIs_9 rfl ?_
    refine kv_iconst dX12_entryIs_10 0 ki_0 ?_
    refine kv_bipush dX12_entryIs_11 7 kb_7 ?_
    refine kw_Si [_, _, _] mX12_within dX12_entryIs_13 lX12_78 wX12_within rfl rfl rfl (qX12_within hu _ _ _) (by decide) ?_
    refine kw_bne dX12_entryIs_16 26 (by decide) (fun h2 => ?_) (fun h2 => ?_)
    · have n2 : ¬ kOut p1 0 7 := kIn_y h2
      have hS : kentryIs a p0 p1 = _ := if_neg (fun q => q.elim n1 n2)
      obtain ⟨e, he, rfl⟩ := hg.at (k := 4) rfl n1
      rw [nI_clamp (by omega)] at hS
      obtain ⟨j, hj, rfl⟩ := kOut.bd (n := 7) (by omega) n2
      unfold kEnV at hS
      rw [nI_clamp (by omega)] at hS
      refine kv_iload_n dX12_entryIs_26 rfl ?_
      refine kv_iconst dX12_entryIs_27 5 ki_5 ?_
      refine kv_icmp_ge dX12_entryIs_28 40 (by decide) (fun h3 => ?_) (fun h3 => ?_)
      · rw [if_neg (show ¬ nI j < 5 from nI_nlt (b := 5) ((nI_leI (by omega) (by omega)).mp h3) (by omega))] at hS
        refine kv_iload_n dX12_entryIs_40 rfl ?_
        refine kv_iconst dX12_entryIs_41 5 ki_5 ?_
        refine kv_icmp_ne dX12_entryIs_42 53 (by decide) (fun h4 => ?_) (fun h4 => ?_)
        · rw [if_neg h4] at hS
          refine kv_iload_n dX12_entryIs_53 rfl ?_
          refine kv_bipush dX12_entryIs_54 6 kb_6 ?_
          refine kv_icmp_ne dX12_entryIs_56 75 (by decide) (fun h5 => ?_) (fun h5 => ?_)
          · rw [if_neg h5] at hS
            refine kv_aload_n dX12_entryIs_75 rfl ?_
            refine kv_iload_n dX12_entryIs_76 rfl ?_
            refine kw_Vpi [_] mX12_kindOf dX12_entryIs_77 lX12_301 wX12_kindOf kC12 hu rfl (by first | rfl | assumption) rfl rfl rfl (qX12_kindOf hu eg hg e he) (by decide) (fun v1 e1 => ?_)
            have hu1 := e1.wd hu
            have E1 := e1
            have eg1 : v1.2.1 414 = a 0 := (E1.row kSM_now).trans eg
            exact kv_iret dX12_entryIs_80 rfl (by rw [hS]; exact kOM.id hm hu E1 rfl)
          · rw [if_pos h5] at hS
            refine kv_aload_n dX12_entryIs_59 rfl ?_
            refine kv_iload_n dX12_entryIs_60 rfl ?_
            refine kw_Vpi [_] mX12_isDisputed dX12_entryIs_61 lX12_298 wX12_isDisputed kC12 hu rfl (by first | rfl | assumption) rfl rfl rfl (qX12_isDisputed hu eg hg e he) (by decide) (fun v1 e1 => ?_)
            have hu1 := e1.wd hu
            have E1 := e1
            have eg1 : v1.2.1 414 = a 0 := (E1.row kSM_now).trans eg
            refine kw_beq dX12_entryIs_64 71 (by decide) (fun h6 => ?_) (fun h6 => ?_)
            · have hT := h6
              rw [if_neg hT] at hS
              refine kv_iconst dX12_entryIs_71 0 ki_0 ?_
              refine kv_goto dX12_entryIs_72 80 (by decide) ?_
              exact kv_iret dX12_entryIs_80 rfl (by rw [hS]; exact kOM.id hm hu E1 rfl)
            · have hT := h6
              rw [if_pos hT] at hS
              refine kv_iconst dX12_entryIs_67 1 ki_1 ?_
              refine kv_goto dX12_entryIs_68 80 (by decide) ?_
              exact kv_iret dX12_entryIs_80 rfl (by rw [hS]; exact kOM.id hm hu E1 rfl)
        · rw [if_pos h4] at hS
          refine kv_aload_n dX12_entryIs_45 rfl ?_
          refine kv_iload_n dX12_entryIs_46 rfl ?_
          refine kw_Vi [_] mX12_firstOf dX12_entryIs_47 lX12_295 wX12_firstOf kC12 hu rfl (by first | rfl | assumption) rfl rfl rfl (qX12_firstOf hu eg hg e he) (by decide) ?_
          refine kv_goto dX12_entryIs_50 80 (by decide) ?_
          exact kv_iret dX12_entryIs_80 rfl (by rw [hS]; exact kOM.id hm hu kEq.rf rfl)
      · have j5 : j < 5 := Nat.not_le.mp (fun q => h3 (nI_le q (by omega)))
        rw [if_pos (show nI j < 5 from nI_lt (b := 5) j5 (by omega))] at hS
        refine kv_aload_n dX12_entryIs_31 rfl ?_
        refine kv_iload_n dX12_entryIs_32 rfl ?_
        refine kv_iload_n dX12_entryIs_33 rfl ?_
        refine kw_Vi [_, _] mX12_line dX12_entryIs_34 lX12_292 wX12_line kC12 hu rfl (by first | rfl | assumption) rfl rfl rfl (gX12_line hu eg e j (by omega) j5) (by decide) ?_
        refine kv_goto dX12_entryIs_37 80 (by decide) ?_
        exact kv_iret dX12_entryIs_80 rfl (by rw [hS]; exact kOM.id hm hu kEq.rf rfl)
    · have hS : kentryIs a p0 p1 = (-1000001, kF a 1) := if_pos (Or.inr (kIn_n h2))
      refine kv_aload_n dX12_entryIs_19 rfl ?_
      refine kv_ldc dX12_entryIs_20 kX12_83 ?_
      refine kw_Vi [_] mX12_finding dX12_entryIs_22 lX12_84 wX12_finding kC12 hu rfl (by first | rfl | assumption) rfl rfl rfl (qX12_finding hu 1 (by decide) (by decide) _ (by decide)) (by decide) ?_
      exact kv_iret dX12_entryIs_25 rfl (by rw [hS]; exact kOM.no hm hu rfl)

set_option maxRecDepth 20000 in
set_option maxHeartbeats 4000000 in
theorem qX11_trace {w : KW} {l : Launch} {u : KMem} (hu : kWd u) {a : KA} (hx : kRX a u) (ho : kOk a) (p0 : Int32) : KC w l mX11_trace 1 0 0 [.ref 0, .int p0] u (kOX u (ktrace a p0).1 (ktrace a p0).2) := by
  have hr := hx.1
  have hg := ho.1
  have hx20 := (hg.cnt (k := 2) rfl).2
  have hc30 := (hg.cnt (k := 0) rfl).2
  have ht10 := (hg.cnt (k := 3) rfl).2
  have he40 := (hg.cnt (k := 4) rfl).2
  have hs16 := hg.cnt (k := 1) rfl
  refine KC.of (ls := [_, _]) rfl rfl (Nat.le_of_ble_eq_true rfl) ?_
  refine kv_iload_n dX11_trace_0 rfl ?_
  refine kv_iconst dX11_trace_1 0 ki_0 ?_
  refine kv_aload_n dX11_trace_2 rfl ?_
  refine kw_gR dX11_trace_3 fX11_54 hu (by first | rfl | assumption) rfl rfl (by first | rfl | assumption) ?_
  refine kw_gI dX11_trace_6 fX11_382 hu (by first | rfl | assumption) rfl rfl ?_
  rw [hx.2.2.2.2.1]
  refine kv_iconst dX11_trace_9 1 ki_1 ?_
  refine kv_isub dX11_trace_10 ?_
  refine kw_Si [_, _, _] mX11_outside dX11_trace_11 lX11_69 wX11_outside rfl rfl rfl (qX11_outside hu _ _ _) (by decide) ?_
  refine kw_beq dX11_trace_14 24 (by decide) (fun h1 => ?_) (fun h1 => ?_)
  · have n1 : ¬ kOut p0 0 (a 5 0 - 1) := h1
    have h30 := ho.2.2.1.n (by omega)
    have hS : ktrace a p0 = _ := if_neg n1
    obtain ⟨j, hj, rfl⟩ : ∃ j, j < kN (a 5) 0 ∧ p0 = nI j := kn_in (by have := h30.2; unfold kN; omega) (by unfold kN; rw [← h30.1]; exact n1)
    have hj30 : j < 30 := Nat.lt_of_lt_of_le hj h30.2
    rw [nI_clamp (by omega)] at hS
    refine kv_aload_n dX11_trace_24 rfl ?_
    refine kw_gR dX11_trace_25 fX11_54 hu (by first | rfl | assumption) rfl rfl (by first | rfl | assumption) ?_
    refine kw_gR dX11_trace_28 fX11_385 hu (by first | rfl | assumption) rfl rfl (by first | rfl | assumption) ?_
    refine kv_iload_n dX11_trace_31 rfl ?_
    refine kw_il dX11_trace_32 hu (by first | rfl | assumption) (j) rfl (by omega) rfl ?_
    rw [hx.2.2.2.2.2.1 j hj]
    exact kv_iret dX11_trace_33 rfl (by rw [hS]; exact kOX.id hx ho hu kEq.rf rfl)
  · have hS : ktrace a p0 = (-1000002, kF a 2) := if_pos h1
    refine kv_aload_n dX11_trace_17 rfl ?_
    refine kv_ldc dX11_trace_18 kX11_248 ?_
    refine kw_Vi [_] mX11_refuse dX11_trace_20 lX11_75 wX11_refuse kC11 hu rfl (by first | rfl | assumption) rfl rfl rfl (qX11_refuse hu 2 (by decide) (by decide) _ (by decide)) (by decide) ?_
    exact kv_iret dX11_trace_23 rfl (by rw [hS]; exact kOX.no hx ho hu (by decide) rfl)

set_option maxRecDepth 20000 in
set_option maxHeartbeats 4000000 in
theorem qX12_trace {w : KW} {l : Launch} {u : KMem} (hu : kWd u) {a : KA} (hm : kRM a u) (ho : kOk a) (p0 : Int32) : KC w l mX12_trace 1 0 0 [.ref 413, .int p0] u (kOM u (ktrace a p0).1 (ktrace a p0).2) := by
  have eg := hm.1
  have hg := ho.1
  have hx20 := (hg.cnt (k := 2) rfl).2
  have hc30 := (hg.cnt (k := 0) rfl).2
  have ht10 := (hg.cnt (k := 3) rfl).2
  have he40 := (hg.cnt (k := 4) rfl).2
  have hs16 := hg.cnt (k := 1) rfl
  refine KC.of (ls := [_, _]) rfl rfl (Nat.le_of_ble_eq_true rfl) ?_
  refine kv_iload_n dX12_trace_0 rfl ?_
  refine kv_iconst dX12_trace_1 0 ki_0 ?_
  refine kv_aload_n dX12_trace_2 rfl ?_
  refine kw_gI dX12_trace_3 fX12_362 hu (by first | rfl | assumption) rfl rfl ?_
  rw [hm.2.2.2.2.2.1]
  refine kv_iconst dX12_trace_6 1 ki_1 ?_
  refine kv_isub dX12_trace_7 ?_
  refine kw_Si [_, _, _] mX12_within dX12_trace_8 lX12_78 wX12_within rfl rfl rfl (qX12_within hu _ _ _) (by decide) ?_
  refine kw_beq dX12_trace_11 23 (by decide) (fun h1 => ?_) (fun h1 => ?_)
  · have hS : ktrace a p0 = (-1000002, kF a 2) := if_pos (kIn_n h1)
    refine kv_aload_n dX12_trace_23 rfl ?_
    refine kv_ldcw dX12_trace_24 kX12_287 ?_
    refine kw_Vi [_] mX12_finding dX12_trace_27 lX12_84 wX12_finding kC12 hu rfl (by first | rfl | assumption) rfl rfl rfl (qX12_finding hu 2 (by decide) (by decide) _ (by decide)) (by decide) ?_
    exact kv_iret dX12_trace_30 rfl (by first | (rw [hS]; exact kOM.id hm hu kEq.rf rfl) | (rw [hS]; exact kOM.no hm hu rfl))
  · have n1 : ¬ kOut p0 0 (a 5 0 - 1) := kIn_y h1
    have h30 := ho.2.2.1.n (by omega)
    have hS : ktrace a p0 = _ := if_neg n1
    obtain ⟨j, hj, rfl⟩ : ∃ j, j < kN (a 5) 0 ∧ p0 = nI j := kn_in (by have := h30.2; unfold kN; omega) (by unfold kN; rw [← h30.1]; exact n1)
    have hj30 : j < 30 := Nat.lt_of_lt_of_le hj h30.2
    rw [nI_clamp (by omega)] at hS
    refine kv_aload_n dX12_trace_14 rfl ?_
    refine kw_gR dX12_trace_15 fX12_62 hu (by first | rfl | assumption) rfl rfl (by first | rfl | assumption) ?_
    refine kv_iload_n dX12_trace_18 rfl ?_
    refine kw_il dX12_trace_19 hu (by first | rfl | assumption) (j) rfl (by omega) rfl ?_
    rw [hm.2.2.2.2.1]
    refine kv_goto dX12_trace_20 30 (by decide) ?_
    exact kv_iret dX12_trace_30 rfl (by first | (rw [hS]; exact kOM.id hm hu kEq.rf rfl) | (rw [hS]; exact kOM.no hm hu rfl))

