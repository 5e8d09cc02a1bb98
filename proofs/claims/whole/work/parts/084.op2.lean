theorem kT4 : (4 : Int32).toInt = 4 := by decide
theorem kT5 : (5 : Int32).toInt = 5 := by decide
theorem kT10 : (10 : Int32).toInt = 10 := by decide
def kCrV (g : Nat → Int32) (x : Nat) (p : Int32) : Int32 := if p = 4 then kFresh g x 0 else if p = 5 then kFresh g x 1 else if p = 6 then kFit g x else if p = 7 then kLeft g x else if p = 8 then kEnd g (kLeft g x) 0 else if p = 9 then kEnd g (kLeft g x) 1 else if p = 10 then kAgr g x else g (328 + 7 * x + p.toNatClampNeg)
theorem kCrV_lo {g : Nat → Int32} {x j : Nat} (hj : j < 4) : g (328 + 7 * x + j) = kCrV g x (nI j) := by
  rcases (show j = 0 ∨ j = 1 ∨ j = 2 ∨ j = 3 by omega) with rfl | rfl | rfl | rfl <;> rfl
def kcrashIs (a : KA) (p0 p1 : Int32) : Int32 × KA := if kOut p0 0 (a 0 2 - 1) ∨ kOut p1 0 10 then (-1000001, kF a 1) else (kCrV (a 0) p0.toNatClampNeg p1, a)
noncomputable def kWoV (g : Nat → Int32) (x s : Nat) (p : Int32) : Int32 := if p = 0 then kRep g x s else if p = 1 then @ite _ (kTot g x s) (Classical.propDecidable _) 1 0 else if p = 2 then kLoss g x s else if p = 3 then kHire g x s else if p = 4 then @ite _ (kTot g x s) (Classical.propDecidable _) 0 (kZn g x s 2) else kClm g x s
noncomputable def kworth (a : KA) (p0 p1 p2 : Int32) : Int32 × KA := if (kOut p0 0 (a 0 2 - 1) ∨ kOut p1 0 1) ∨ kOut p2 0 5 then (-1000001, kF a 1) else (kWoV (a 0) p0.toNatClampNeg p1.toNatClampNeg p2, a)
noncomputable def kback (a : KA) (p0 p1 p2 : Int32) : Int32 × KA := if (kOut p0 0 (a 0 2 - 1) ∨ kOut p1 0 1) ∨ kOut p2 0 999999 then (-1000001, kF a 1) else (kBk (a 0) p0.toNatClampNeg p1.toNatClampNeg p2 (kLoss (a 0) p0.toNatClampNeg p1.toNatClampNeg), a)
set_option maxRecDepth 20000 in
set_option maxHeartbeats 4000000 in
theorem qX11_crashIs {w : KW} {l : Launch} {u : KMem} (hu : kWd u) {a : KA} (hx : kRX a u) (ho : kOk a) (p0 p1 : Int32) : KC w l mX11_crashIs 5 0 0 [.ref 0, .int p0, .int p1] u (kOX u (kcrashIs a p0 p1).1 (kcrashIs a p0 p1).2) := by
  have hr := hx.1
  have hg := ho.1
  have hx20 := (hg.cnt (k := 2) rfl).2
  have hc30 := (hg.cnt (k := 0) rfl).2
  have ht10 := (hg.cnt (k := 3) rfl).2
  have he40 := (hg.cnt (k := 4) rfl).2
  have hs16 := hg.cnt (k := 1) rfl
  refine KC.of (ls := [_, _, _, _]) rfl rfl (Nat.le_of_ble_eq_true rfl) ?_
  refine kv_aload_n dX11_crashIs_0 rfl ?_
  refine kv_iload_n dX11_crashIs_1 rfl ?_
  refine kw_Vi [_] mX11_noCrash dX11_crashIs_2 lX11_151 wX11_noCrash kC11 hu rfl (by first | rfl | assumption) rfl rfl rfl (qX11_noCrash hu _) (by decide) ?_
  refine kw_bne dX11_crashIs_5 18 (by decide) (fun h1 => ?_) (fun h1 => ?_)
  · rw [hr.n2] at h1
    have hS : kcrashIs a p0 p1 = (-1000001, kF a 1) := if_pos (Or.inl h1)
    refine kv_aload_n dX11_crashIs_18 rfl ?_
    refine kv_ldc dX11_crashIs_19 kX11_74 ?_
    refine kw_Vi [_] mX11_refuse dX11_crashIs_21 lX11_75 wX11_refuse kC11 hu rfl (by first | rfl | assumption) rfl rfl rfl (qX11_refuse hu 1 (by decide) (by decide) _ (by decide)) (by decide) ?_
    exact kv_iret dX11_crashIs_24 rfl (by rw [hS]; exact kOX.no hx ho hu (by decide) rfl)
  · rw [hr.n2] at h1
    have n1 : ¬ kOut p0 0 (a 0 2 - 1) := h1
    refine kv_iload_n dX11_crashIs_8 rfl ?_
    refine kv_iconst dX11_crashIs_9 0 ki_0 ?_
    refine kv_bipush dX11_crashIs_10 10 kb_10 ?_
    refine kw_Si [_, _, _] mX11_outside dX11_crashIs_12 lX11_69 wX11_outside rfl rfl rfl (qX11_outside hu _ _ _) (by decide) ?_
    refine kw_beq dX11_crashIs_15 25 (by decide) (fun h2 => ?_) (fun h2 => ?_)
    · have n2 : ¬ kOut p1 0 10 := h2
      have hS : kcrashIs a p0 p1 = _ := if_neg (fun q => q.elim n1 n2)
      obtain ⟨x, hx2, rfl⟩ := hg.at (k := 2) rfl n1
      rw [nI_clamp (by omega)] at hS
      have kx := ks_crash x (by omega)
      have kx1 := kx.1
      have kx2 := kx.2.1
      have kx3 := kx.2.2.1
      have kx4 := kx.2.2.2.1
      have kx5 := kx.2.2.2.2.1
      have kx6 := kx.2.2.2.2.2
      refine kv_aload_n dX11_crashIs_25 rfl ?_
      refine kw_gR dX11_crashIs_26 fX11_12 hu (by first | rfl | assumption) rfl rfl (by first | rfl | assumption) ?_
      refine kw_gR dX11_crashIs_29 fX11_137 hu (by first | rfl | assumption) rfl rfl (by first | rfl | assumption) ?_
      refine kv_iload_n dX11_crashIs_32 rfl ?_
      refine kw_al (t := 1) (n := 20) dX11_crashIs_33 hu rfl rfl (x) rfl (by omega) rfl (by first | rfl | assumption) ?_
      refine kv_astore_n (ls2 := [_, _, _, _]) dX11_crashIs_34 rfl rfl rfl rfl ?_
      refine kv_iload_n dX11_crashIs_35 rfl ?_
      by_cases h3 : p1.toInt < 0 ∨ 9 < p1.toInt
      · refine kv_tableOut dX11_crashIs_36 178 h3 (by decide) ?_
        obtain rfl : p1 = 10 := kn_i32 (by have := kOut.i n2; rw [kT0, kT10] at this; rw [kT10]; omega)
        refine kv_aload_n dX11_crashIs_178 rfl ?_
        refine kw_gR dX11_crashIs_179 fX11_24 hu (by first | rfl | assumption) rfl rfl (by first | rfl | assumption) ?_
        refine kv_aload_n dX11_crashIs_182 rfl ?_
        refine kw_Vpi [_] mX3_agreed dX11_crashIs_183 lX11_178 wX3_agreed kC3 hu rfl (by first | rfl | assumption) rfl rfl rfl (qX3_agreed hu hr hg x hx2) (by decide) (fun v1 e1 => ?_)
        have hu1 := e1.wd hu
        have E1 := e1
        exact kv_iret dX11_crashIs_186 rfl (by rw [hS]; exact kOX.id hx ho hu E1 rfl)
      · rcases (show p1.toInt = 0 ∨ p1.toInt = 1 ∨ p1.toInt = 2 ∨ p1.toInt = 3 ∨ p1.toInt = 4 ∨ p1.toInt = 5 ∨ p1.toInt = 6 ∨ p1.toInt = 7 ∨ p1.toInt = 8 ∨ p1.toInt = 9 by omega) with hv | hv | hv | hv | hv | hv | hv | hv | hv | hv
        · obtain rfl : p1 = 0 := kn_i32 (by rw [hv]; decide)
          refine kv_tableIn dX11_crashIs_36 92 (by decide) (by decide) rfl (by decide) ?_
          refine kv_aload_n dX11_crashIs_92 rfl ?_
          refine kw_gR dX11_crashIs_93 fX11_154 hu (by first | rfl | assumption) rfl rfl (by first | rfl | assumption) ?_
          refine kv_iconst dX11_crashIs_96 0 ki_0 ?_
          refine kw_il dX11_crashIs_97 hu (by first | rfl | assumption) (_) (show (0 : Int32) = nI 0 from rfl) (by omega) rfl ?_
          rw [hr.cc hx2 0 (by decide)]
          exact kv_iret dX11_crashIs_98 rfl (by rw [hS]; exact kOX.id hx ho hu kEq.rf rfl)
        · obtain rfl : p1 = 1 := kn_i32 (by rw [hv]; decide)
          refine kv_tableIn dX11_crashIs_36 99 (by decide) (by decide) rfl (by decide) ?_
          refine kv_aload_n dX11_crashIs_99 rfl ?_
          refine kw_gR dX11_crashIs_100 fX11_154 hu (by first | rfl | assumption) rfl rfl (by first | rfl | assumption) ?_
          refine kv_iconst dX11_crashIs_103 1 ki_1 ?_
          refine kw_il dX11_crashIs_104 hu (by first | rfl | assumption) (_) (show (1 : Int32) = nI 1 from rfl) (by omega) rfl ?_
          rw [hr.cc hx2 1 (by decide)]
          exact kv_iret dX11_crashIs_105 rfl (by rw [hS]; exact kOX.id hx ho hu kEq.rf rfl)
        · obtain rfl : p1 = 2 := kn_i32 (by rw [hv]; decide)
          refine kv_tableIn dX11_crashIs_36 106 (by decide) (by decide) rfl (by decide) ?_
          refine kv_aload_n dX11_crashIs_106 rfl ?_
          refine kw_gI dX11_crashIs_107 fX11_156 hu (by first | rfl | assumption) rfl rfl ?_
          rw [hr.day hx2]
          exact kv_iret dX11_crashIs_110 rfl (by rw [hS]; exact kOX.id hx ho hu kEq.rf rfl)
        · obtain rfl : p1 = 3 := kn_i32 (by rw [hv]; decide)
          refine kv_tableIn dX11_crashIs_36 111 (by decide) (by decide) rfl (by decide) ?_
          refine kv_aload_n dX11_crashIs_111 rfl ?_
          refine kw_gI dX11_crashIs_112 fX11_159 hu (by first | rfl | assumption) rfl rfl ?_
          rw [hr.speed hx2]
          exact kv_iret dX11_crashIs_115 rfl (by rw [hS]; exact kOX.id hx ho hu kEq.rf rfl)
        · obtain rfl : p1 = 4 := kn_i32 (by rw [hv]; decide)
          refine kv_tableIn dX11_crashIs_36 116 (by decide) (by decide) rfl (by decide) ?_
          refine kv_aload_n dX11_crashIs_116 rfl ?_
          refine kv_iconst dX11_crashIs_117 0 ki_0 ?_
          refine kw_Vi [_] mX1_freshOf dX11_crashIs_118 lX11_162 wX1_freshOf kC1 hu rfl (by first | rfl | assumption) rfl rfl rfl (qX1_freshOf hu hr hg x hx2 0 (by decide)) (by decide) ?_
          exact kv_iret dX11_crashIs_121 rfl (by rw [hS]; exact kOX.id hx ho hu kEq.rf rfl)
        · obtain rfl : p1 = 5 := kn_i32 (by rw [hv]; decide)
          refine kv_tableIn dX11_crashIs_36 122 (by decide) (by decide) rfl (by decide) ?_
          refine kv_aload_n dX11_crashIs_122 rfl ?_
          refine kv_iconst dX11_crashIs_123 1 ki_1 ?_
          refine kw_Vi [_] mX1_freshOf dX11_crashIs_124 lX11_162 wX1_freshOf kC1 hu rfl (by first | rfl | assumption) rfl rfl rfl (qX1_freshOf hu hr hg x hx2 1 (by decide)) (by decide) ?_
          exact kv_iret dX11_crashIs_127 rfl (by rw [hS]; exact kOX.id hx ho hu kEq.rf rfl)
        · obtain rfl : p1 = 6 := kn_i32 (by rw [hv]; decide)
          refine kv_tableIn dX11_crashIs_36 128 (by decide) (by decide) rfl (by decide) ?_
          refine kv_aload_n dX11_crashIs_128 rfl ?_
          refine kw_gR dX11_crashIs_129 fX11_24 hu (by first | rfl | assumption) rfl rfl (by first | rfl | assumption) ?_
          refine kv_aload_n dX11_crashIs_132 rfl ?_
          refine kw_Vi [_] mX3_fitting dX11_crashIs_133 lX11_165 wX3_fitting kC3 hu rfl (by first | rfl | assumption) rfl rfl rfl (qX3_fitting hu hr hg x hx2) (by decide) ?_
          exact kv_iret dX11_crashIs_136 rfl (by rw [hS]; exact kOX.id hx ho hu kEq.rf rfl)
        · obtain rfl : p1 = 7 := kn_i32 (by rw [hv]; decide)
          refine kv_tableIn dX11_crashIs_36 137 (by decide) (by decide) rfl (by decide) ?_
          refine kv_aload_n dX11_crashIs_137 rfl ?_
          refine kw_gR dX11_crashIs_138 fX11_24 hu (by first | rfl | assumption) rfl rfl (by first | rfl | assumption) ?_
          refine kv_aload_n dX11_crashIs_141 rfl ?_
          refine kw_Vi [_] mX3_left dX11_crashIs_142 lX11_169 wX3_left kC3 hu rfl (by first | rfl | assumption) rfl rfl rfl (qX3_left hu hr hg x hx2) (by decide) ?_
          exact kv_iret dX11_crashIs_145 rfl (by rw [hS]; exact kOX.id hx ho hu kEq.rf rfl)
        · obtain rfl : p1 = 8 := kn_i32 (by rw [hv]; decide)
          refine kv_tableIn dX11_crashIs_36 146 (by decide) (by decide) rfl (by decide) ?_
          refine kv_aload_n dX11_crashIs_146 rfl ?_
          refine kw_gR dX11_crashIs_147 fX11_24 hu (by first | rfl | assumption) rfl rfl (by first | rfl | assumption) ?_
          refine kv_aload_n dX11_crashIs_150 rfl ?_
          refine kw_gR dX11_crashIs_151 fX11_24 hu (by first | rfl | assumption) rfl rfl (by first | rfl | assumption) ?_
          refine kv_aload_n dX11_crashIs_154 rfl ?_
          refine kw_Vi [_] mX3_left dX11_crashIs_155 lX11_169 wX3_left kC3 hu rfl (by first | rfl | assumption) rfl rfl rfl (qX3_left hu hr hg x hx2) (by decide) ?_
          refine kw_Vi [_] mX3_least dX11_crashIs_158 lX11_172 wX3_least kC3 hu rfl (by first | rfl | assumption) rfl rfl rfl (qX3_least hu hr hg _ (hg.left x)) (by decide) ?_
          exact kv_iret dX11_crashIs_161 rfl (by rw [hS]; exact kOX.id hx ho hu kEq.rf rfl)
        · obtain rfl : p1 = 9 := kn_i32 (by rw [hv]; decide)
          refine kv_tableIn dX11_crashIs_36 162 (by decide) (by decide) rfl (by decide) ?_
          refine kv_aload_n dX11_crashIs_162 rfl ?_
          refine kw_gR dX11_crashIs_163 fX11_24 hu (by first | rfl | assumption) rfl rfl (by first | rfl | assumption) ?_
          refine kv_aload_n dX11_crashIs_166 rfl ?_
          refine kw_gR dX11_crashIs_167 fX11_24 hu (by first | rfl | assumption) rfl rfl (by first | rfl | assumption) ?_
          refine kv_aload_n dX11_crashIs_170 rfl ?_
          refine kw_Vi [_] mX3_left dX11_crashIs_171 lX11_169 wX3_left kC3 hu rfl (by first | rfl | assumption) rfl rfl rfl (qX3_left hu hr hg x hx2) (by decide) ?_
          refine kw_Vi [_] mX3_most dX11_crashIs_174 lX11_175 wX3_most kC3 hu rfl (by first | rfl | assumption) rfl rfl rfl (qX3_most hu hr hg _ (hg.left x)) (by decide) ?_
          exact kv_iret dX11_crashIs_177 rfl (by rw [hS]; exact kOX.id hx ho hu kEq.rf rfl)
    · have hS : kcrashIs a p0 p1 = (-1000001, kF a 1) := if_pos (Or.inr h2)
      refine kv_aload_n dX11_crashIs_18 rfl ?_
      refine kv_ldc dX11_crashIs_19 kX11_74 ?_
      refine kw_Vi [_] mX11_refuse dX11_crashIs_21 lX11_75 wX11_refuse kC11 hu rfl (by first | rfl | assumption) rfl rfl rfl (qX11_refuse hu 1 (by decide) (by decide) _ (by decide)) (by decide) ?_
      exact kv_iret dX11_crashIs_24 rfl (by rw [hS]; exact kOX.no hx ho hu (by decide) rfl)

set_option maxRecDepth 20000 in
set_option maxHeartbeats 4000000 in
theorem qX12_crashIs {w : KW} {l : Launch} {u : KMem} (hu : kWd u) {a : KA} (hm : kRM a u) (ho : kOk a) (p0 p1 : Int32) : KC w l mX12_crashIs 6 0 0 [.ref 413, .int p0, .int p1] u (kOM u (kcrashIs a p0 p1).1 (kcrashIs a p0 p1).2) := by
  have eg := hm.1
  have hg := ho.1
  have hx20 := (hg.cnt (k := 2) rfl).2
  have hc30 := (hg.cnt (k := 0) rfl).2
  have ht10 := (hg.cnt (k := 3) rfl).2
  have he40 := (hg.cnt (k := 4) rfl).2
  have hs16 := hg.cnt (k := 1) rfl
  refine KC.of (ls := [_, _, _]) rfl rfl (Nat.le_of_ble_eq_true rfl) ?_
  refine kv_aload_n dX12_crashIs_0 rfl ?_
  refine kv_iload_n dX12_crashIs_1 rfl ?_
  refine kv_iconst dX12_crashIs_2 2 ki_2 ?_
  refine kw_Vi [_, _] mX12_is dX12_crashIs_3 lX12_93 wX12_is kC12 hu rfl (by first | rfl | assumption) rfl rfl rfl (gX12_is hu eg _ 2 (by omega)) (by decide) ?_
  refine kw_beq dX12_crashIs_6 19 (by decide) (fun h1 => ?_) (fun h1 => ?_)
  · have hS : kcrashIs a p0 p1 = (-1000001, kF a 1) := if_pos (Or.inl (kIn_n h1))
    refine kv_aload_n dX12_crashIs_19 rfl ?_
    refine kv_ldc dX12_crashIs_20 kX12_83 ?_
    refine kw_Vi [_] mX12_finding dX12_crashIs_22 lX12_84 wX12_finding kC12 hu rfl (by first | rfl | assumption) rfl rfl rfl (qX12_finding hu 1 (by decide) (by decide) _ (by decide)) (by decide) ?_
    exact kv_iret dX12_crashIs_25 rfl (by rw [hS]; exact kOM.no hm hu rfl)
  · have n1 : ¬ kOut p0 0 (a 0 2 - 1) := kIn_y h1
    refine kv_iload_n dX12_crashIs_9 rfl ?_
    refine kv_iconst dX12_crashIs_10 0 ki_0 ?_
    refine kv_bipush dX12_crashIs_11 10 kb_10 ?_
    refine kw_Si [_, _, _] mX12_within dX12_crashIs_13 lX12_78 wX12_within rfl rfl rfl (qX12_within hu _ _ _) (by decide) ?_
    refine kw_bne dX12_crashIs_16 26 (by decide) (fun h2 => ?_) (fun h2 => ?_)
    · have n2 : ¬ kOut p1 0 10 := kIn_y h2
      have hS : kcrashIs a p0 p1 = _ := if_neg (fun q => q.elim n1 n2)
      obtain ⟨x, hx2, rfl⟩ := hg.at (k := 2) rfl n1
      rw [nI_clamp (by omega)] at hS
      refine kv_iload_n dX12_crashIs_26 rfl ?_
      by_cases h3 : p1.toInt < 4 ∨ 10 < p1.toInt
      · refine kv_tableOut dX12_crashIs_27 116 h3 (by decide) ?_
        obtain ⟨j, hj, rfl⟩ : ∃ j, j < 4 ∧ p1 = nI j := by
          obtain ⟨j, hj, rfl⟩ := kOut.bd (n := 10) (by omega) n2
          have e := nI_toInt (n := j) (by omega)
          exact ⟨j, by omega, rfl⟩
        refine kv_aload_n dX12_crashIs_116 rfl ?_
        refine kv_iload_n dX12_crashIs_117 rfl ?_
        refine kv_iload_n dX12_crashIs_118 rfl ?_
        refine kw_Vi [_, _] mX12_crash_ dX12_crashIs_119 lX12_113 wX12_crash_ kC12 hu rfl (by first | rfl | assumption) rfl rfl rfl (gX12_crash_ hu eg x j (by omega) (by omega)) (by decide) ?_
        exact kv_iret dX12_crashIs_122 rfl (by rw [hS, ← kCrV_lo hj]; exact kOM.id hm hu kEq.rf rfl)
      · rcases (show p1.toInt = 4 ∨ p1.toInt = 5 ∨ p1.toInt = 6 ∨ p1.toInt = 7 ∨ p1.toInt = 8 ∨ p1.toInt = 9 ∨ p1.toInt = 10 by omega) with hv | hv | hv | hv | hv | hv | hv
        · obtain rfl : p1 = 4 := kn_i32 (by rw [hv]; decide)
          refine kv_tableIn dX12_crashIs_27 68 (by decide) (by decide) rfl (by decide) ?_
          refine kv_aload_n dX12_crashIs_68 rfl ?_
          refine kv_iload_n dX12_crashIs_69 rfl ?_
          refine kv_iload_n dX12_crashIs_70 rfl ?_
          refine kv_iconst dX12_crashIs_71 4 ki_4 ?_
          refine kv_isub dX12_crashIs_72 ?_
          first | rw [show (4 - 4 : Int32) = nI 0 from by decide] | rw [show (5 - 4 : Int32) = nI 1 from by decide]
          refine kw_Vi [_, _] mX12_fresh dX12_crashIs_73 lX12_119 wX12_fresh kC12 hu rfl (by first | rfl | assumption) rfl rfl rfl (by first | exact gX12_fresh hu eg hg x 0 hx2 (by decide) | exact gX12_fresh hu eg hg x 1 hx2 (by decide)) (by decide) ?_
          exact kv_iret dX12_crashIs_76 rfl (by rw [hS]; exact kOM.id hm hu kEq.rf rfl)
        · obtain rfl : p1 = 5 := kn_i32 (by rw [hv]; decide)
          refine kv_tableIn dX12_crashIs_27 68 (by decide) (by decide) rfl (by decide) ?_
          refine kv_aload_n dX12_crashIs_68 rfl ?_
          refine kv_iload_n dX12_crashIs_69 rfl ?_
          refine kv_iload_n dX12_crashIs_70 rfl ?_
          refine kv_iconst dX12_crashIs_71 4 ki_4 ?_
          refine kv_isub dX12_crashIs_72 ?_
          first | rw [show (4 - 4 : Int32) = nI 0 from by decide] | rw [show (5 - 4 : Int32) = nI 1 from by decide]
          refine kw_Vi [_, _] mX12_fresh dX12_crashIs_73 lX12_119 wX12_fresh kC12 hu rfl (by first | rfl | assumption) rfl rfl rfl (by first | exact gX12_fresh hu eg hg x 0 hx2 (by decide) | exact gX12_fresh hu eg hg x 1 hx2 (by decide)) (by decide) ?_
          exact kv_iret dX12_crashIs_76 rfl (by rw [hS]; exact kOM.id hm hu kEq.rf rfl)
        · obtain rfl : p1 = 6 := kn_i32 (by rw [hv]; decide)
          refine kv_tableIn dX12_crashIs_27 77 (by decide) (by decide) rfl (by decide) ?_
          refine kv_aload_n dX12_crashIs_77 rfl ?_
          refine kv_iload_n dX12_crashIs_78 rfl ?_
          refine kw_Vi [_] mX12_fit dX12_crashIs_79 lX12_122 wX12_fit kC12 hu rfl (by first | rfl | assumption) rfl rfl rfl (gX12_fit hu eg hg x hx2) (by decide) ?_
          exact kv_iret dX12_crashIs_82 rfl (by rw [hS]; exact kOM.id hm hu kEq.rf rfl)
        · obtain rfl : p1 = 7 := kn_i32 (by rw [hv]; decide)
          refine kv_tableIn dX12_crashIs_27 83 (by decide) (by decide) rfl (by decide) ?_
          refine kv_aload_n dX12_crashIs_83 rfl ?_
          refine kv_iload_n dX12_crashIs_84 rfl ?_
          refine kw_Vi [_] mX12_left dX12_crashIs_85 lX12_139 wX12_left kC12 hu rfl (by first | rfl | assumption) rfl rfl rfl (gX12_left hu eg hg x hx2) (by decide) ?_
          exact kv_iret dX12_crashIs_88 rfl (by rw [hS]; exact kOM.id hm hu kEq.rf rfl)
        · obtain rfl : p1 = 8 := kn_i32 (by rw [hv]; decide)
          refine kv_tableIn dX12_crashIs_27 89 (by decide) (by decide) rfl (by decide) ?_
          refine kv_aload_n dX12_crashIs_89 rfl ?_
          refine kv_aload_n dX12_crashIs_90 rfl ?_
          refine kv_iload_n dX12_crashIs_91 rfl ?_
          refine kw_Vi [_] mX12_left dX12_crashIs_92 lX12_139 wX12_left kC12 hu rfl (by first | rfl | assumption) rfl rfl rfl (gX12_left hu eg hg x hx2) (by decide) ?_
          refine kv_iload_n dX12_crashIs_95 rfl ?_
          refine kv_bipush dX12_crashIs_96 9 kb_9 ?_
          refine kv_icmp_ne dX12_crashIs_98 105 (by decide) (fun h4 => ?_) (fun h4 => ?_)
          · refine kv_iconst dX12_crashIs_105 0 ki_0 ?_
            refine kw_Vi [_, _] mX12_end dX12_crashIs_106 lX12_145 wX12_end kC12 hu rfl (by first | rfl | assumption) rfl rfl rfl (by first | exact gX12_end0 hu eg hg _ | exact gX12_end1 hu eg hg _) (by decide) ?_
            exact kv_iret dX12_crashIs_109 rfl (by rw [hS]; exact kOM.id hm hu kEq.rf rfl)
          · refine kv_iconst dX12_crashIs_101 1 ki_1 ?_
            refine kv_goto dX12_crashIs_102 106 (by decide) ?_
            refine kw_Vi [_, _] mX12_end dX12_crashIs_106 lX12_145 wX12_end kC12 hu rfl (by first | rfl | assumption) rfl rfl rfl (by first | exact gX12_end0 hu eg hg _ | exact gX12_end1 hu eg hg _) (by decide) ?_
            exact kv_iret dX12_crashIs_109 rfl (by rw [hS]; exact kOM.id hm hu kEq.rf rfl)
        · obtain rfl : p1 = 9 := kn_i32 (by rw [hv]; decide)
          refine kv_tableIn dX12_crashIs_27 89 (by decide) (by decide) rfl (by decide) ?_
          refine kv_aload_n dX12_crashIs_89 rfl ?_
          refine kv_aload_n dX12_crashIs_90 rfl ?_
          refine kv_iload_n dX12_crashIs_91 rfl ?_
          refine kw_Vi [_] mX12_left dX12_crashIs_92 lX12_139 wX12_left kC12 hu rfl (by first | rfl | assumption) rfl rfl rfl (gX12_left hu eg hg x hx2) (by decide) ?_
          refine kv_iload_n dX12_crashIs_95 rfl ?_
          refine kv_bipush dX12_crashIs_96 9 kb_9 ?_
          refine kv_icmp_ne dX12_crashIs_98 105 (by decide) (fun h5 => ?_) (fun h5 => ?_)
          · refine kv_iconst dX12_crashIs_105 0 ki_0 ?_
            refine kw_Vi [_, _] mX12_end dX12_crashIs_106 lX12_145 wX12_end kC12 hu rfl (by first | rfl | assumption) rfl rfl rfl (by first | exact gX12_end0 hu eg hg _ | exact gX12_end1 hu eg hg _) (by decide) ?_
            exact kv_iret dX12_crashIs_109 rfl (by rw [hS]; exact kOM.id hm hu kEq.rf rfl)
          · refine kv_iconst dX12_crashIs_101 1 ki_1 ?_
            refine kv_goto dX12_crashIs_102 106 (by decide) ?_
            refine kw_Vi [_, _] mX12_end dX12_crashIs_106 lX12_145 wX12_end kC12 hu rfl (by first | rfl | assumption) rfl rfl rfl (by first | exact gX12_end0 hu eg hg _ | exact gX12_end1 hu eg hg _) (by decide) ?_
            exact kv_iret dX12_crashIs_109 rfl (by rw [hS]; exact kOM.id hm hu kEq.rf rfl)
        · obtain rfl : p1 = 10 := kn_i32 (by rw [hv]; decide)
          refine kv_tableIn dX12_crashIs_27 110 (by decide) (by decide) rfl (by decide) ?_
          refine kv_aload_n dX12_crashIs_110 rfl ?_
          refine kv_iload_n dX12_crashIs_111 rfl ?_
          refine kw_Vpi [_] mX12_agreed dX12_crashIs_112 lX12_159 wX12_agreed kC12 hu rfl (by first | rfl | assumption) rfl rfl rfl (qX12_agreed hu eg hg x hx2) (by decide) (fun v1 e1 => ?_)
          have hu1 := e1.wd hu
          have E1 := e1
          have eg1 : v1.2.1 414 = g := (E1.row kSM_now).trans eg
          exact kv_iret dX12_crashIs_115 rfl (by rw [hS]; exact kOM.id hm hu E1 rfl)
    · have hS : kcrashIs a p0 p1 = (-1000001, kF a 1) := if_pos (Or.inr (kIn_n h2))
      refine kv_aload_n dX12_crashIs_19 rfl ?_
      refine kv_ldc dX12_crashIs_20 kX12_83 ?_
      refine kw_Vi [_] mX12_finding dX12_crashIs_22 lX12_84 wX12_finding kC12 hu rfl (by first | rfl | assumption) rfl rfl rfl (qX12_finding hu 1 (by decide) (by decide) _ (by decide)) (by decide) ?_
      exact kv_iret dX12_crashIs_25 rfl (by rw [hS]; exact kOM.no hm hu rfl)

