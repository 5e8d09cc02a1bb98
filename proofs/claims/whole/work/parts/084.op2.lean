theorem kT4 : (4 : Int32).toInt = 4 := by decide
theorem kT5 : (5 : Int32).toInt = 5 := by decide
theorem kT10 : (10 : Int32).toInt = 10 := by decide
def kCrV (g : Nat → Int32) (x : Nat) (p : Int32) : Int32 := if p = 4 then kFresh g x 0 else if p = 5 then kFresh g x 1 else if p = 6 then kFit g x else if p = 7 then kLeft g x else if p = 8 then kEnd g (kLeft g x) 0 else if p = 9 then kEnd g (kLeft g x) 1 else if p = 10 then kAgr g x else g (328 + 7 * x + p.toNatClampNeg)
theorem kCrV_lo {g : Nat → Int32} {x j : Nat} (hj : j < 4) : g (328 + 7 * x + j) = kCrV g x (nI j) := by
  rcases (show j = 0 ∨ j = 1 ∨ j = 2 ∨ j = 3 by omega) with rfl | rfl | rfl | rfl <;> rfl
def kcrashIs (a : KA) (p0 p1 : Int32) : Int32 × KA := if kOut p0 0 (a 0 2 - 1) ∨ kOut p1 0 10 then (-1000001, kF a 1) else (kCrV (a 0) p0.toNatClampNeg p1, a)
noncomputable def kWoV (g : Nat → Int32) (x s : Nat) (p : Int32) : Int32 := if p = 0 then kRep g x s else if p = 1 then @ite _ (kTot g x s) (Classical.propDecidable _) 1 0 else if p = 2 then kLoss g x s else if p = 3 then kHire g x s else if p = 4 then @ite _ (kTot g x s) (Classical.propDecidable _) 0 (kZn g x s 2) else kClm g x s
noncomputable def kworth (a : KA) (p0 p1 p2 : Int32) : Int32 × KA := if (kOut p0 0 (a 0 2 - 1) ∨ kOut p1 0 1) ∨ kOut p2 0 5 then (-1000001, kF a 1) else (kWoV (a 0) p0.toNatClampNeg p1.toNatClampNeg p2, a)
noncomputable def kback (a : KA) (p0 p1 p2 : Int32) : Int32 × KA := if (kOut p0 0 (a 0 2 - 1) ∨ kOut p1 0 1) ∨ kOut p2 0 999999 then (-1000001, kF a 1) else (kBk (a 0) p0.toNatClampNeg p1.toNatClampNeg p2 (kLoss (a 0) p0.toNatClampNeg p1.toNatClampNeg), a)
set_option maxRecDepth 20000 in
set_option maxHeartbeats 4000000 in
theorem qX11_crashIs {w : KW} {l : Launch} {u : KMem} (hu : kWd u) {a : KA} (hx : kRX a u) (ho : kOk a) (p0 p1 : Int32) : KC w l mX11_crashIs 5 0 0 [.ref 0, .int p0, .int p1] u (kOX u (kcrashIs a p0 p1).1 (kcrashIs a p0 p1).2) := by
  have hr := hx.1
  have hg := ho.1
  have hx20 := (hg.cnt (k := 2) rfl).2
  have hc30 := (hg.cnt (k := 0) rfl).2
  have ht10 := (hg.cnt (k := 3) rfl).2
  have he40 := (hg.cnt (k := 4) rfl).2
  have hs16 := hg.cnt (k := 1) rfl
  refine KC.of (ls := [_, _, _, _]) rfl rfl (Nat.le_of_ble_eq_true rfl) ?_
  refine kv_aload_n dX11_crashIs_0 rfl ?_
  refine kv_iload_n dX11_crashIs_1 rfl ?_
  refine kw_Vi [_] mX11_noCrash dX11_crashIs_2 lX11_151 wX11_noCrash kC11 hu rfl (by first | rfl | assumption) rfl rfl rfl (qX11_noCrash hu _) (by decide) ?_
  refine kw_bne dX11_crashIs_5 18 (by decide) (fun h1 => ?_) (fun h1 => ?_)
  · rw [hr.n2] at h1
    have hS : kcrashIs a p0 p1 = (-1000001, kF a 1) := if_pos (Or.inl h1)
    refine kv_aload_n dX11_crashIs_18 rfl ?_
    refine kv_ldc dX11_crashIs_19 kX11_74 ?_
    refine kw_Vi [_] mX11_refuse dX11_crashIs_21 lX11_75 wX11_refuse kC11 hu rfl (by first | rfl | assumption) rfl rfl rfl (qX11_refuse hu 1 (by decide) (by decide) _ (by decide)) (by decide) ?_
    exact kv_iret dX11_crashIs_24 rfl (by rw [hS]; exact kOX.no hx ho hu (by decide) rfl)
  · rw [hr.n2] at h1
    have n1 : ¬ kOut p0 0 (a 0 2 - 1) := h1
    refine kv_iload_n dX11_crashIs_8 rfl ?_
    refine kv_iconst dX11_crashIs_9 0 ki_0 ?_
    refine kv_bipush dX11_crashIs_10 10 kb_10 ?_
    refine kw_Si [_, _, _] mX11_outside dX11_crashIs_12 lX11_69 wX11_outside rfl rfl rfl (qX11_outside hu _ _ _) (by decide) ?_
    refine kw_beq dX11_crashIs_15 25 (by decide) (fun h2 => ?_) (fun h2 => ?_)
    · have n2 : ¬ kOut p1 0 10 := h2
      have hS : kcrashIs a p0 p1 = _ := if_neg (fun q => q.elim n1 n2)
      obtain ⟨x, hx2, rfl⟩ := hg.at (k := 2) rfl n1
      rw [nI_clamp (by omega)] at hS
      have kx := ks_crash x (by omega)
      have kx1 := kx.1
      have kx2 := kx.2.1
      have kx3 := kx.2.2.1
      have kx4 := kx.2.2.2.1
      have kx5 := kx.2.2.2.2.1
      have kx6 := kx.2.2.2.2.2
      refine kv_aload_n dX11_crashIs_25 rfl ?_
      refine kw_gR dX11_crashIs_26 fX11_12 hu (by first | rfl | assumption) rfl rfl (by first | rfl | assumption) ?_
      refine kw_gR dX11_crashIs_29 fX11_137 hu (by first | rfl | assumption) rfl rfl (by first | rfl | assumption) ?_
      refine kv_iload_n dX11_crashIs_32 rfl ?_
      refine kw_al (t := 1) (n := 20) dX11_crashIs_33 hu rfl rfl (x) rfl (by omega) rfl (by first | rfl | assumption) ?_
      refine kv_astore_n (ls2 := [_, _, _, _]) dX11_crashIs_34 rfl rfl rfl rfl ?_
      refine kv_iload_n dX11_crashIs_35 rfl ?_
      by_cases h3 : p1.toInt < 0 ∨ 9 < p1.toInt
      · refine kv_tableOut dX11_crashIs_36 178 h3 (by decide) ?_
        obtain rfl : p1 = 10 := kn_i32 (by have := kOut.i n2; rw [kT0, kT10] at this; rw [kT10]; omega)
        refine kv_aload_n dX11_crashIs_178 rfl ?_
        refine kw_gR dX11_crashIs_179 fX11_24 hu (by first | rfl | assumption) rfl rfl (by first | rfl | assumption) ?_
        refine kv_aload_n dX11_crashIs_182 rfl ?_
        refine kw_Vpi [_] mX3_agreed dX11_crashIs_183 lX11_178 wX3_agreed kC3 hu rfl (by first | rfl | assumption) rfl rfl rfl (qX3_agreed hu hr hg x hx2) (by decide) (fun v1 e1 => ?_)
        have hu1 := e1.wd hu
        have E1 := e1
        exact kv_iret dX11_crashIs_186 rfl (by rw [hS]; exact kOX.id hx ho hu E1 rfl)
      · rcases (show p1.toInt = 0 ∨ p1.toInt = 1 ∨ p1.toInt = 2 ∨ p1.toInt = 3 ∨ p1.toInt = 4 ∨ p1.toInt = 5 ∨ p1.toInt = 6 ∨ p1.toInt = 7 ∨ p1.toInt = 8 ∨ p1.toInt = 9 by omega) with hv | hv | hv | hv | hv | hv | hv | hv | hv | hv
        · obtain rfl : p1 = 0 := kn_i32 (by rw [hv]; decide)
          refine kv_tableIn dX11_crashIs_36 92 (by decide) (by decide) rfl (by decide) ?_
          refine kv_aload_n dX11_crashIs_92 rfl ?_
          refine kw_gR dX11_crashIs_93 fX11_154 hu (by first | rfl | assumption) rfl rfl (by first | rfl | assumption) ?_
          refine kv_iconst dX11_crashIs_96 0 ki_0 ?_
          refine kw_il dX11_crashIs_97 hu (by first | rfl | assumption) (_) (show (0 : Int32) = nI 0 from rfl) (by omega) rfl ?_
          rw [hr.cc hx2 0 (by decide)]
          exact kv_iret dX11_crashIs_98 rfl (by rw [hS]; exact kOX.id hx ho hu kEq.rf rfl)
        · obtain rfl : p1 = 1 := kn_i32 (by rw [hv]; decide)
          refine kv_tableIn dX11_crashIs_36 99 (by decide) (by decide) rfl (by decide) ?_
          refine kv_aload_n dX11_crashIs_99 rfl ?_
          refine kw_gR dX11_crashIs_100 fX11_154 hu (by first | rfl | assumption) rfl rfl (by first | rfl | assumption) ?_
          refine kv_iconst dX11_crashIs_103 1 ki_1 ?_
          refine kw_il dX11_crashIs_104 hu (by first | rfl | assumption) (_) (show (1 : Int32) = nI 1 from rfl) (by omega) rfl ?_
          rw [hr.cc hx2 1 (by decide)]
          exact kv_iret dX11_crashIs_105 rfl (by rw [hS]; exact kOX.id hx ho hu kEq.rf rfl)
        · obtain rfl : p1 = 2 := kn_i32 (by rw [hv]; decide)
          refine kv_tableIn dX11_crashIs_36 106 (by decide) (by decide) rfl (by decide) ?_
          refine kv_aload_n dX11_crashIs_106 rfl ?_
          refine kw_gI dX11_crashIs_107 fX11_156 hu (by first | rfl | assumption) rfl rfl ?_
          rw [hr.day hx2]
          exact kv_iret dX11_crashIs_110 rfl (by rw [hS]; exact kOX.id hx ho hu kEq.rf rfl)
        · obtain rfl : p1 = 3 := kn_i32 (by rw [hv]; decide)
          refine kv_tableIn dX11_crashIs_36 111 (by decide) (by decide) rfl (by decide) ?_
          refine kv_aload_n dX11_crashIs_111 rfl ?_
          refine kw_gI dX11_crashIs_112 fX11_159 hu (by first | rfl | assumption) rfl rfl ?_
          rw [hr.speed hx2]
          exact kv_iret dX11_crashIs_115 rfl (by rw [hS]; exact kOX.id hx ho hu kEq.rf rfl)
        · obtain rfl : p1 = 4 := kn_i32 (by rw [hv]; decide)
          refine kv_tableIn dX11_crashIs_36 116 (by decide) (by decide) rfl (by decide) ?_
          refine kv_aload_n dX11_crashIs_116 rfl ?_
          refine kv_iconst dX11_crashIs_117 0 ki_0 ?_
          refine kw_Vi [_] mX1_freshOf dX11_crashIs_118 lX11_162 wX1_freshOf kC1 hu rfl (by first | rfl | assumption) rfl rfl rfl (qX1_freshOf hu hr hg x hx2 0 (by decide)) (by decide) ?_
          exact kv_iret dX11_crashIs_121 rfl (by rw [hS]; exact kOX.id hx ho hu kEq.rf rfl)
        · obtain rfl : p1 = 5 := kn_i32 (by rw [hv]; decide)
          refine kv_tableIn dX11_crashIs_36 122 (by decide) (by decide) rfl (by decide) ?_
          refine kv_aload_n dX11_crashIs_122 rfl ?_
          refine kv_iconst dX11_crashIs_123 1 ki_1 ?_
          refine kw_Vi [_] mX1_freshOf dX11_crashIs_124 lX11_162 wX1_freshOf kC1 hu rfl (by first | rfl | assumption) rfl rfl rfl (qX1_freshOf hu hr hg x hx2 1 (by decide)) (by decide) ?_
          exact kv_iret dX11_crashIs_127 rfl (by rw [hS]; exact kOX.id hx ho hu kEq.rf rfl)
        · obtain rfl : p1 = 6 := kn_i32 (by rw [hv]; decide)
          refine kv_tableIn dX11_crashIs_36 128 (by decide) (by decide) rfl (by decide) ?_
          refine kv_aload_n dX11_crashIs_128 rfl ?_
          refine kw_gR dX11_crashIs_129 fX11_24 hu (by first | rfl | assumption) rfl rfl (by first | rfl | assumption) ?_
          refine kv_aload_n dX11_crashIs_132 rfl ?_
          refine kw_Vi [_] mX3_fitting dX11_crashIs_133 lX11_165 wX3_fitting kC3 hu rfl (by first | rfl | assumption) rfl rfl rfl (qX3_fitting hu hr hg x hx2) (by decide) ?_
          exact kv_iret dX11_crashIs_136 rfl (by rw [hS]; exact kOX.id hx ho hu kEq.rf rfl)
        · obtain rfl : p1 = 7 := kn_i32 (by rw [hv]; decide)
          refine kv_tableIn dX11_crashIs_36 137 (by decide) (by decide) rfl (by decide) ?_
          refine kv_aload_n dX11_crashIs_137 rfl ?_
          refine kw_gR dX11_crashIs_138 fX11_24 hu (by first | rfl | assumption) rfl rfl (by first | rfl | assumption) ?_
          refine kv_aload_n dX11_crashIs_141 rfl ?_
          refine kw_Vi [_] mX3_left dX11_crashIs_142 lX11_169 wX3_left kC3 hu rfl (by first | rfl | assumption) rfl rfl rfl (qX3_left hu hr hg x hx2) (by decide) ?_
          exact kv_iret dX11_crashIs_145 rfl (by rw [hS]; exact kOX.id hx ho hu kEq.rf rfl)
        · obtain rfl : p1 = 8 := kn_i32 (by rw [hv]; decide)
          refine kv_tableIn dX11_crashIs_36 146 (by decide) (by decide) rfl (by decide) ?_
          refine kv_aload_n dX11_crashIs_146 rfl ?_
          refine kw_gR dX11_crashIs_147 fX11_24 hu (by first | rfl | assumption) rfl rfl (by first | rfl | assumption) ?_
          refine kv_aload_n dX11_crashIs_150 rfl ?_
          refine kw_gR dX11_crashIs_151 fX11_24 hu (by first | rfl | assumption) rfl rfl (by first | rfl | assumption) ?_
          refine kv_aload_n dX11_crashIs_154 rfl ?_
          refine kw_Vi [_] mX3_left dX11_crashIs_155 lX11_169 wX3_left kC3 hu rfl (by first | rfl | assumption) rfl rfl rfl (qX3_left hu hr hg x hx2) (by decide) ?_
          refine kw_Vi [_] mX3_least dX11_crashIs_158 lX11_172 wX3_least kC3 hu rfl (by first | rfl | assumption) rfl rfl rfl (qX3_least hu hr hg _ (hg.left x)) (by decide) ?_
          exact kv_iret dX11_crashIs_161 rfl (by rw [hS]; exact kOX.id hx ho hu kEq.rf rfl)
        · obtain rfl : p1 = 9 := kn_i32 (by rw [hv]; decide)
          refine kv_tableIn dX11_crashIs_36 162 (by decide) (by decide) rfl (by decide) ?_
          refine kv_aload_n dX11_crashIs_162 rfl ?_
          refine kw_gR dX11_crashIs_163 fX11_24 hu (by first | rfl | assumption) rfl rfl (by first | rfl | assumption) ?_
          refine kv_aload_n dX11_crashIs_166 rfl ?_
          refine kw_gR dX11_crashIs_167 fX11_24 hu (by first | rfl | assumption) rfl rfl (by first | rfl | assumption) ?_
          refine kv_aload_n dX11_crashIs_170 rfl ?_
          refine kw_Vi [_] mX3_left dX11_crashIs_171 lX11_169 wX3_left kC3 hu rfl (by first | rfl | assumption) rfl rfl rfl (qX3_left hu hr hg x hx2) (by decide) ?_
          refine kw_Vi [_] mX3_most dX11_crashIs_174 lX11_175 wX3_most kC3 hu rfl (by first | rfl | assumption) rfl rfl rfl (qX3_most hu hr hg _ (hg.left x)) (by decide) ?_
          exact kv_iret dX11_crashIs_177 rfl (by rw [hS]; exact kOX.id hx ho hu kEq.rf rfl)
    · have hS : kcrashIs a p0 p1 = (-1000001, kF a 1) := if_pos (Or.inr h2)
      refine kv_aload_n dX11_crashIs_18 rfl ?_
      refine kv_ldc dX11_crashIs_19 kX11_74 ?_
      refine kw_Vi [_] mX11_refuse dX11_crashIs_21 lX11_75 wX11_refuse kC11 hu rfl (by first | rfl | assumption) rfl rfl rfl (qX11_refuse hu 1 (by decide) (by decide) _ (by decide)) (by decide) ?_
      exact kv_iret dX11_crashIs_24 rfl (by rw [hS]; exact kOX.no hx ho hu (by decide) rfl)

set_option maxRecDepth 20000 in
set_option maxHeartbeats 4000000 in
theorem qX12_crashIs {w : KW} {l : Launch} {u : KMem} (hu : kWd u) {a : KA} (hm : kRM a u) (ho : kOk a) (p0 p1 : Int32) : KC w l mX12_crashIs 6 0 0 [.ref 413, .int p0, .int p1] u (kOM u (kcrashIs a p0 p1).1 (kcrashIs a p0 p1).2) := by
  have eg := hm.1
  have hg := ho.1
  have hx20 := (hg.cnt (k := 2) rfl).2
  have hc30 := (hg.cnt (k := 0) rfl).2
  have ht10 := (hg.cnt (k := 3) rfl).2
  have he40 := (hg.cnt (k := 4) rfl).2
  have hs16 := hg.cnt (k := 1) rfl
  refine KC.of (ls := [_, _, _]) rfl rfl (Nat.le_of_ble_eq_true rfl) ?_
  refine kv_aload_n dX12_crashIs_0 rfl ?_
  refine kv_iload_n dX12_crashIs_1 rfl ?_
  refine kv_iconst dX12_crashIs_2 2 ki_2 ?_
  refine kw_Vi [_, _] mX12_is dX12_crashIs_3 lX12_93 wX12_is kC12 hu rfl (by first | rfl | assumption) rfl rfl rfl (gX12_is hu eg _ 2 (by omega)) (by decide) ?_
  refine kw_beq dX12_crashIs_6 19 (by decide) (fun h1 => ?_) (fun h1 => ?_)
  · have hS : kcrashIs a p0 p1 = (-1000001, kF a 1) := if_pos (Or.inl (kIn_n h1))
    refine kv_aload_n dX12_crashIs_19 rfl ?_
    refine kv_ldc dX12_crashIs_20 kX12_83 ?_
    refine kw_Vi [_] mX12_finding dX12_crashIs_22 lX12_84 wX12_finding kC12 hu rfl (by first | rfl | assumption) rfl rfl rfl (qX12_finding hu 1 (by decide) (by decide) _ (by decide)) (by decide) ?_
    exact kv_iret dX12_crashIs_25 rfl (by rw [hS]; exact kOM.no hm hu rfl)
  · have n1 : ¬ kOut p0 0 (a 0 2 - 1) := kIn_y h1
    refine kv_iload_n dX12_crashIs_9 rfl ?_
    refine kv_iconst dX12_crashIs_10 0 ki_0 ?_
    refine kv_bipush dX12_crashIs_11 10 kb_10 ?_
    refine kw_Si [_, _, _] mX12_within dX12_crashIs_13 lX12_78 wX12_within rfl rfl rfl (qX12_within hu _ _ _) (by decide) ?_
    refine kw_bne dX12_crashIs_16 26 (by decide) (fun h2 => ?_) (fun h2 => ?_)
    · have n2 : ¬ kOut p1 0 10 := kIn_y h2
      have hS : kcrashIs a p0 p1 = _ := if_neg (fun q => q.elim n1 n2)
      obtain ⟨x, hx2, rfl⟩ := hg.at (k := 2) rfl n1
      rw [nI_clamp (by omega)] at hS
      refine kv_iload_n dX12_crashIs_26 rfl ?_
      by_cases h3 : p1.toInt < 4 ∨ 10 < p1.toInt
      · refine kv_tableOut dX12_crashIs_27 116 h3 (by decide) ?_
        obtain ⟨j, hj, rfl⟩ : ∃ j, j < 4 ∧ p1 = nI j := by
          obtain ⟨j, hj, rfl⟩ := kOut.bd (n := 10) (by omega) n2
          have e := nI_toInt (n := j) (by omega)
          exact ⟨j, by omega, rfl⟩
        refine kv_aload_n dX12_crashIs_116 rfl ?_
        refine kv_iload_n dX12_crashIs_117 rfl ?_
        refine kv_iload_n dX12_crashIs_118 rfl ?_
        refine kw_Vi [_, _] mX12_crash_ dX12_crashIs_119 lX12_113 wX12_crash_ kC12 hu rfl (by first | rfl | assumption) rfl rfl rfl (gX12_crash_ hu eg x j (by omega) (by omega)) (by decide) ?_
        exact kv_iret dX12_crashIs_122 rfl (by rw [hS, ← kCrV_lo hj]; exact kOM.id hm hu kEq.rf rfl)
      · rcases (show p1.toInt = 4 ∨ p1.toInt = 5 ∨ p1.toInt = 6 ∨ p1.toInt = 7 ∨ p1.toInt = 8 ∨ p1.toInt = 9 ∨ p1.toInt = 10 by omega) with hv | hv | hv | hv | hv | hv | hv
        · obtain rfl : p1 = 4 := kn_i32 (by rw [hv]; decide)
          refine kv_tableIn dX12_crashIs_27 68 (by decide) (by decide) rfl (by decide) ?_
          refine kv_aload_n dX12_crashIs_68 rfl ?_
          refine kv_iload_n dX12_crashIs_69 rfl ?_
          refine kv_iload_n dX12_crashIs_70 rfl ?_
          refine kv_iconst dX12_crashIs_71 4 ki_4 ?_
          refine kv_isub dX12_crashIs_72 ?_
          first | rw [show (4 - 4 : Int32) = nI 0 from by decide] | rw [show (5 - 4 : Int32) = nI 1 from by decide]
          refine kw_Vi [_, _] mX12_fresh dX12_crashIs_73 lX12_119 wX12_fresh kC12 hu rfl (by first | rfl | assumption) rfl rfl rfl (by first | exact gX12_fresh hu eg hg x 0 hx2 (by decide) | exact gX12_fresh hu eg hg x 1 hx2 (by decide)) (by decide) ?_
          exact kv_iret dX12_crashIs_76 rfl (by rw [hS]; exact kOM.id hm hu kEq.rf rfl)
        · obtain rfl : p1 = 5 := kn_i32 (by rw [hv]; decide)
          refine kv_tableIn dX12_crashIs_27 68 (by decide) (by decide) rfl (by decide) ?_
          refine kv_aload_n dX12_crashIs_68 rfl ?_
          refine kv_iload_n dX12_crashIs_69 rfl ?_
          refine kv_iload_n dX12_crashIs_70 rfl ?_
          refine kv_iconst dX12_crashIs_71 4 ki_4 ?_
          refine kv_isub dX12_crashIs_72 ?_
          first | rw [show (4 - 4 : Int32) = nI 0 from by decide] | rw [show (5 - 4 : Int32) = nI 1 from by decide]
          refine kw_Vi [_, _] mX12_fresh dX12_crashIs_73 lX12_119 wX12_fresh kC12 hu rfl (by first | rfl | assumption) rfl rfl rfl (by first | exact gX12_fresh hu eg hg x 0 hx2 (by decide) | exact gX12_fresh hu eg hg x 1 hx2 (by decide)) (by decide) ?_
          exact kv_iret dX12_crashIs_76 rfl (by rw [hS]; exact kOM.id hm hu kEq.rf rfl)
        · obtain rfl : p1 = 6 := kn_i32 (by rw [hv]; decide)
          refine kv_tableIn dX12_crashIs_27 77 (by decide) (by decide) rfl (by decide) ?_
          refine kv_aload_n dX12_crashIs_77 rfl ?_
          refine kv_iload_n dX12_crashIs_78 rfl ?_
          refine kw_Vi [_] mX12_fit dX12_crashIs_79 lX12_122 wX12_fit kC12 hu rfl (by first | rfl | assumption) rfl rfl rfl (gX12_fit hu eg hg x hx2) (by decide) ?_
          exact kv_iret dX12_crashIs_82 rfl (by rw [hS]; exact kOM.id hm hu kEq.rf rfl)
        · obtain rfl : p1 = 7 := kn_i32 (by rw [hv]; decide)
          refine kv_tableIn dX12_crashIs_27 83 (by decide) (by decide) rfl (by decide) ?_
          refine kv_aload_n dX12_crashIs_83 rfl ?_
          refine kv_iload_n dX12_crashIs_84 rfl ?_
          refine kw_Vi [_] mX12_left dX12_crashIs_85 lX12_139 wX12_left kC12 hu rfl (by first | rfl | assumption) rfl rfl rfl (gX12_left hu eg hg x hx2) (by decide) ?_
          exact kv_iret dX12_crashIs_88 rfl (by rw [hS]; exact kOM.id hm hu kEq.rf rfl)
        · obtain rfl : p1 = 8 := kn_i32 (by rw [hv]; decide)
          refine kv_tableIn dX12_crashIs_27 89 (by decide) (by decide) rfl (by decide) ?_
          refine kv_aload_n dX12_crashIs_89 rfl ?_
          refine kv_aload_n dX12_crashIs_90 rfl ?_
          refine kv_iload_n dX12_crashIs_91 rfl ?_
          refine kw_Vi [_] mX12_left dX12_crashIs_92 lX12_139 wX12_left kC12 hu rfl (by first | rfl | assumption) rfl rfl rfl (gX12_left hu eg hg x hx2) (by decide) ?_
          refine kv_iload_n dX12_crashIs_95 rfl ?_
          refine kv_bipush dX12_crashIs_96 9 kb_9 ?_
          refine kv_icmp_ne dX12_crashIs_98 105 (by decide) (fun h4 => ?_) (fun h4 => ?_)
          · refine kv_iconst dX12_crashIs_105 0 ki_0 ?_
            refine kw_Vi [_, _] mX12_end dX12_crashIs_106 lX12_145 wX12_end kC12 hu rfl (by first | rfl | assumption) rfl rfl rfl (by first | exact gX12_end0 hu eg hg _ | exact gX12_end1 hu eg hg _) (by decide) ?_
            exact kv_iret dX12_crashIs_109 rfl (by first | exact absurd ‹(8 : Int32) = 9› (by decide) | exact absurd rfl ‹¬ (9 : Int32) = 9› | (rw [hS]; exact kOM.id hm hu kEq.rf rfl))
          · refine kv_iconst dX12_crashIs_101 1 ki_1 ?_
            refine kv_goto dX12_crashIs_102 106 (by decide) ?_
            refine kw_Vi [_, _] mX12_end dX12_crashIs_106 lX12_145 wX12_end kC12 hu rfl (by first | rfl | assumption) rfl rfl rfl (by first | exact gX12_end0 hu eg hg _ | exact gX12_end1 hu eg hg _) (by decide) ?_
            exact kv_iret dX12_crashIs_109 rfl (by first | exact absurd ‹(8 : Int32) = 9› (by decide) | exact absurd rfl ‹¬ (9 : Int32) = 9› | (rw [hS]; exact kOM.id hm hu kEq.rf rfl))
        · obtain rfl : p1 = 9 := kn_i32 (by rw [hv]; decide)
          refine kv_tableIn dX12_crashIs_27 89 (by decide) (by decide) rfl (by decide) ?_
          refine kv_aload_n dX12_crashIs_89 rfl ?_
          refine kv_aload_n dX12_crashIs_90 rfl ?_
          refine kv_iload_n dX12_crashIs_91 rfl ?_
          refine kw_Vi [_] mX12_left dX12_crashIs_92 lX12_139 wX12_left kC12 hu rfl (by first | rfl | assumption) rfl rfl rfl (gX12_left hu eg hg x hx2) (by decide) ?_
          refine kv_iload_n dX12_crashIs_95 rfl ?_
          refine kv_bipush dX12_crashIs_96 9 kb_9 ?_
          refine kv_icmp_ne dX12_crashIs_98 105 (by decide) (fun h5 => ?_) (fun h5 => ?_)
          · refine kv_iconst dX12_crashIs_105 0 ki_0 ?_
            refine kw_Vi [_, _] mX12_end dX12_crashIs_106 lX12_145 wX12_end kC12 hu rfl (by first | rfl | assumption) rfl rfl rfl (by first | exact gX12_end0 hu eg hg _ | exact gX12_end1 hu eg hg _) (by decide) ?_
            exact kv_iret dX12_crashIs_109 rfl (by first | exact absurd ‹(8 : Int32) = 9› (by decide) | exact absurd rfl ‹¬ (9 : Int32) = 9› | (rw [hS]; exact kOM.id hm hu kEq.rf rfl))
          · refine kv_iconst dX12_crashIs_101 1 ki_1 ?_
            refine kv_goto dX12_crashIs_102 106 (by decide) ?_
            refine kw_Vi [_, _] mX12_end dX12_crashIs_106 lX12_145 wX12_end kC12 hu rfl (by first | rfl | assumption) rfl rfl rfl (by first | exact gX12_end0 hu eg hg _ | exact gX12_end1 hu eg hg _) (by decide) ?_
            exact kv_iret dX12_crashIs_109 rfl (by first | exact absurd ‹(8 : Int32) = 9› (by decide) | exact absurd rfl ‹¬ (9 : Int32) = 9› | (rw [hS]; exact kOM.id hm hu kEq.rf rfl))
        · obtain rfl : p1 = 10 := kn_i32 (by rw [hv]; decide)
          refine kv_tableIn dX12_crashIs_27 110 (by decide) (by decide) rfl (by decide) ?_
          refine kv_aload_n dX12_crashIs_110 rfl ?_
          refine kv_iload_n dX12_crashIs_111 rfl ?_
          refine kw_Vpi [_] mX12_agreed dX12_crashIs_112 lX12_159 wX12_agreed kC12 hu rfl (by first | rfl | assumption) rfl rfl rfl (qX12_agreed hu eg hg x hx2) (by decide) (fun v1 e1 => ?_)
          have hu1 := e1.wd hu
          have E1 := e1
          have eg1 : v1.2.1 414 = a 0 := (E1.row kSM_now).trans eg
          exact kv_iret dX12_crashIs_115 rfl (by rw [hS]; exact kOM.id hm hu E1 rfl)
    · have hS : kcrashIs a p0 p1 = (-1000001, kF a 1) := if_pos (Or.inr (kIn_n h2))
      refine kv_aload_n dX12_crashIs_19 rfl ?_
      refine kv_ldc dX12_crashIs_20 kX12_83 ?_
      refine kw_Vi [_] mX12_finding dX12_crashIs_22 lX12_84 wX12_finding kC12 hu rfl (by first | rfl | assumption) rfl rfl rfl (qX12_finding hu 1 (by decide) (by decide) _ (by decide)) (by decide) ?_
      exact kv_iret dX12_crashIs_25 rfl (by rw [hS]; exact kOM.no hm hu rfl)

set_option maxRecDepth 20000 in
set_option maxHeartbeats 4000000 in
theorem qX11_worth {w : KW} {l : Launch} {u : KMem} (hu : kWd u) {a : KA} (hx : kRX a u) (ho : kOk a) (p0 p1 p2 : Int32) : KC w l mX11_worth 5 0 0 [.ref 0, .int p0, .int p1, .int p2] u (kOX u (kworth a p0 p1 p2).1 (kworth a p0 p1 p2).2) := by
  have hr := hx.1
  have hg := ho.1
  have hx20 := (hg.cnt (k := 2) rfl).2
  have hc30 := (hg.cnt (k := 0) rfl).2
  have ht10 := (hg.cnt (k := 3) rfl).2
  have he40 := (hg.cnt (k := 4) rfl).2
  have hs16 := hg.cnt (k := 1) rfl
  refine KC.of (ls := [_, _, _, _, _]) rfl rfl (Nat.le_of_ble_eq_true rfl) ?_
  refine kv_aload_n dX11_worth_0 rfl ?_
  refine kv_iload_n dX11_worth_1 rfl ?_
  refine kv_iload_n dX11_worth_2 rfl ?_
  refine kw_Vi [_, _] mX11_noSide dX11_worth_3 lX11_144 wX11_noSide kC11 hu rfl (by first | rfl | assumption) rfl rfl rfl (qX11_noSide hu _ _) (by decide) ?_
  refine kw_bne dX11_worth_6 18 (by decide) (fun h1 => ?_) (fun h1 => ?_)
  · rw [hr.n2] at h1
    have hS : kworth a p0 p1 p2 = (-1000001, kF a 1) := if_pos (Or.inl h1)
    refine kv_aload_n dX11_worth_18 rfl ?_
    refine kv_ldc dX11_worth_19 kX11_74 ?_
    refine kw_Vi [_] mX11_refuse dX11_worth_21 lX11_75 wX11_refuse kC11 hu rfl (by first | rfl | assumption) rfl rfl rfl (qX11_refuse hu 1 (by decide) (by decide) _ (by decide)) (by decide) ?_
    exact kv_iret dX11_worth_24 rfl (by rw [hS]; exact kOX.no hx ho hu (by decide) rfl)
  · rw [hr.n2] at h1
    have n1 : ¬ kOut p0 0 (a 0 2 - 1) := fun q => h1 (Or.inl q)
    have n3 : ¬ kOut p1 0 1 := fun q => h1 (Or.inr q)
    refine kv_iload_n dX11_worth_9 rfl ?_
    refine kv_iconst dX11_worth_10 0 ki_0 ?_
    refine kv_iconst dX11_worth_11 5 ki_5 ?_
    refine kw_Si [_, _, _] mX11_outside dX11_worth_12 lX11_69 wX11_outside rfl rfl rfl (qX11_outside hu _ _ _) (by decide) ?_
    refine kw_beq dX11_worth_15 25 (by decide) (fun h2 => ?_) (fun h2 => ?_)
    · have n2 : ¬ kOut p2 0 5 := h2
      have hS : kworth a p0 p1 p2 = _ := if_neg (fun q => q.elim (fun q => q.elim n1 n3) n2)
      obtain ⟨x, hx2, rfl⟩ := hg.at (k := 2) rfl n1
      rw [nI_clamp (by omega)] at hS
      obtain ⟨s, hs2, rfl⟩ := kOut.bd (n := 1) (by omega) n3
      rw [nI_clamp (by omega)] at hS
      have hs : s < 2 := by omega
      have kx := ks_crash x (by omega)
      have kx1 := kx.1
      have kx2 := kx.2.1
      have kx3 := kx.2.2.1
      have kx4 := kx.2.2.2.1
      have kx5 := kx.2.2.2.2.1
      have kx6 := kx.2.2.2.2.2
      refine kv_aload_n dX11_worth_25 rfl ?_
      refine kw_gR dX11_worth_26 fX11_12 hu (by first | rfl | assumption) rfl rfl (by first | rfl | assumption) ?_
      refine kw_gR dX11_worth_29 fX11_137 hu (by first | rfl | assumption) rfl rfl (by first | rfl | assumption) ?_
      refine kv_iload_n dX11_worth_32 rfl ?_
      refine kw_al (t := 1) (n := 20) dX11_worth_33 hu rfl rfl (x) rfl (by omega) rfl (by first | rfl | assumption) ?_
      refine kv_astore (ls2 := [_, _, _, _, _]) dX11_worth_34 rfl rfl rfl rfl ?_
      refine kv_aload_n dX11_worth_36 rfl ?_
      refine kw_gR dX11_worth_37 fX11_24 hu (by first | rfl | assumption) rfl rfl (by first | rfl | assumption) ?_
      refine kv_aload dX11_worth_40 rfl ?_
      refine kv_iload_n dX11_worth_42 rfl ?_
      refine kw_VQ [_, _] mX3_appraise dX11_worth_43 lX11_193 wX3_appraise kC3 hu rfl (by first | rfl | assumption) rfl rfl rfl (qX3_appraise hu hr hg x hx2 s hs) (by decide) (fun _ v1 q1 => ?_)
      obtain ⟨rfl, e5, ap⟩ := q1
      have e1 := kS5_X e5
      have hr1 := hr.eqX hg e1
      have hu1 := e1.wd hu
      have E1 := e1
      refine kv_iload_n dX11_worth_46 rfl ?_
      by_cases h3 : p2.toInt < 0 ∨ 4 < p2.toInt
      · refine kv_tableOut dX11_worth_47 128 h3 (by decide) ?_
        obtain rfl : p2 = 5 := kn_i32 (by have := kOut.i n2; rw [kT0, kT5] at this; rw [kT5]; omega)
        refine kv_aload_n dX11_worth_128 rfl ?_
        refine kw_gR dX11_worth_129 fX11_24 hu1 (by first | rfl | assumption) rfl rfl (by first | rfl | assumption) ?_
        refine kv_aload dX11_worth_132 rfl ?_
        refine kv_iload_n dX11_worth_134 rfl ?_
        refine kw_Vpi [_, _] mX3_claim dX11_worth_135 lX11_213 wX3_claim kC3 hu1 rfl (by first | rfl | assumption) rfl rfl rfl (qX3_claim hu1 hr1 hg x hx2 s hs) (by decide) (fun v2 e2 => ?_)
        have hu2 := e2.wd hu1
        have E2 := E1.tr e2
        exact kv_iret dX11_worth_138 rfl (by rw [hS]; exact kOX.id hx ho hu E2 rfl)
      · rcases (show p2.toInt = 0 ∨ p2.toInt = 1 ∨ p2.toInt = 2 ∨ p2.toInt = 3 ∨ p2.toInt = 4 by omega) with hv | hv | hv | hv | hv
        · obtain rfl : p2 = 0 := kn_i32 (by rw [hv]; decide)
          refine kv_tableIn dX11_worth_47 80 (by decide) (by decide) rfl (by decide) ?_
          refine kv_aload_n dX11_worth_80 rfl ?_
          refine kw_gR dX11_worth_81 fX11_24 hu1 (by first | rfl | assumption) rfl rfl (by first | rfl | assumption) ?_
          refine kw_gI dX11_worth_84 fX11_197 hu1 (by first | rfl | assumption) rfl rfl ?_
          rw [ap.1]
          exact kv_iret dX11_worth_87 rfl (by rw [hS]; exact kOX.id hx ho hu E1 rfl)
        · obtain rfl : p2 = 1 := kn_i32 (by rw [hv]; decide)
          refine kv_tableIn dX11_worth_47 88 (by decide) (by decide) rfl (by decide) ?_
          refine kv_aload_n dX11_worth_88 rfl ?_
          refine kw_gR dX11_worth_89 fX11_24 hu1 (by first | rfl | assumption) rfl rfl (by first | rfl | assumption) ?_
          refine kw_gI dX11_worth_92 fX11_200 hu1 (by first | rfl | assumption) rfl rfl ?_
          rw [ap.2.1]
          refine kw_beq dX11_worth_95 102 (by decide) (fun h4 => ?_) (fun h4 => ?_)
          · have hT := h4
            refine kv_iconst dX11_worth_102 0 ki_0 ?_
            exact kv_iret dX11_worth_103 rfl (by rw [hS]; exact kOX.id hx ho hu E1 (by first | exact (if_pos hT).symm | exact (if_neg hT).symm))
          · have hT := h4
            refine kv_iconst dX11_worth_98 1 ki_1 ?_
            refine kv_goto dX11_worth_99 103 (by decide) ?_
            exact kv_iret dX11_worth_103 rfl (by rw [hS]; exact kOX.id hx ho hu E1 (by first | exact (if_pos hT).symm | exact (if_neg hT).symm))
        · obtain rfl : p2 = 2 := kn_i32 (by rw [hv]; decide)
          refine kv_tableIn dX11_worth_47 104 (by decide) (by decide) rfl (by decide) ?_
          refine kv_aload_n dX11_worth_104 rfl ?_
          refine kw_gR dX11_worth_105 fX11_24 hu1 (by first | rfl | assumption) rfl rfl (by first | rfl | assumption) ?_
          refine kw_gI dX11_worth_108 fX11_204 hu1 (by first | rfl | assumption) rfl rfl ?_
          rw [ap.2.2.1]
          exact kv_iret dX11_worth_111 rfl (by rw [hS]; exact kOX.id hx ho hu E1 rfl)
        · obtain rfl : p2 = 3 := kn_i32 (by rw [hv]; decide)
          refine kv_tableIn dX11_worth_47 112 (by decide) (by decide) rfl (by decide) ?_
          refine kv_aload_n dX11_worth_112 rfl ?_
          refine kw_gR dX11_worth_113 fX11_24 hu1 (by first | rfl | assumption) rfl rfl (by first | rfl | assumption) ?_
          refine kw_gI dX11_worth_116 fX11_207 hu1 (by first | rfl | assumption) rfl rfl ?_
          rw [ap.2.2.2.1]
          exact kv_iret dX11_worth_119 rfl (by rw [hS]; exact kOX.id hx ho hu E1 rfl)
        · obtain rfl : p2 = 4 := kn_i32 (by rw [hv]; decide)
          refine kv_tableIn dX11_worth_47 120 (by decide) (by decide) rfl (by decide) ?_
          refine kv_aload_n dX11_worth_120 rfl ?_
          refine kw_gR dX11_worth_121 fX11_24 hu1 (by first | rfl | assumption) rfl rfl (by first | rfl | assumption) ?_
          refine kw_gI dX11_worth_124 fX11_210 hu1 (by first | rfl | assumption) rfl rfl ?_
          rw [ap.2.2.2.2]
          exact kv_iret dX11_worth_127 rfl (by rw [hS]; exact kOX.id hx ho hu E1 rfl)
    · have hS : kworth a p0 p1 p2 = (-1000001, kF a 1) := if_pos (Or.inr h2)
      refine kv_aload_n dX11_worth_18 rfl ?_
      refine kv_ldc dX11_worth_19 kX11_74 ?_
      refine kw_Vi [_] mX11_refuse dX11_worth_21 lX11_75 wX11_refuse kC11 hu rfl (by first | rfl | assumption) rfl rfl rfl (qX11_refuse hu 1 (by decide) (by decide) _ (by decide)) (by decide) ?_
      exact kv_iret dX11_worth_24 rfl (by rw [hS]; exact kOX.no hx ho hu (by decide) rfl)

set_option maxRecDepth 20000 in
set_option maxHeartbeats 4000000 in
theorem qX12_worth {w : KW} {l : Launch} {u : KMem} (hu : kWd u) {a : KA} (hm : kRM a u) (ho : kOk a) (p0 p1 p2 : Int32) : KC w l mX12_worth 8 0 0 [.ref 413, .int p0, .int p1, .int p2] u (kOM u (kworth a p0 p1 p2).1 (kworth a p0 p1 p2).2) := by
  have eg := hm.1
  have hg := ho.1
  have hx20 := (hg.cnt (k := 2) rfl).2
  have hc30 := (hg.cnt (k := 0) rfl).2
  have ht10 := (hg.cnt (k := 3) rfl).2
  have he40 := (hg.cnt (k := 4) rfl).2
  have hs16 := hg.cnt (k := 1) rfl
  refine KC.of (ls := [_, _, _, _]) rfl rfl (Nat.le_of_ble_eq_true rfl) ?_
  refine kv_aload_n dX12_worth_0 rfl ?_
  refine kv_iload_n dX12_worth_1 rfl ?_
  refine kv_iconst dX12_worth_2 2 ki_2 ?_
  refine kw_Vi [_, _] mX12_is dX12_worth_3 lX12_93 wX12_is kC12 hu rfl (by first | rfl | assumption) rfl rfl rfl (gX12_is hu eg _ 2 (by omega)) (by decide) ?_
  refine kw_beq dX12_worth_6 25 (by decide) (fun h1 => ?_) (fun h1 => ?_)
  · have hS : kworth a p0 p1 p2 = (-1000001, kF a 1) := if_pos (Or.inl (Or.inl (kIn_n h1)))
    refine kv_aload_n dX12_worth_25 rfl ?_
    refine kv_ldc dX12_worth_26 kX12_83 ?_
    refine kw_Vi [_] mX12_finding dX12_worth_28 lX12_84 wX12_finding kC12 hu rfl (by first | rfl | assumption) rfl rfl rfl (qX12_finding hu 1 (by decide) (by decide) _ (by decide)) (by decide) ?_
    exact kv_iret dX12_worth_31 rfl (by rw [hS]; exact kOM.no hm hu rfl)
  · have n1 : ¬ kOut p0 0 (a 0 2 - 1) := kIn_y h1
    refine kv_iload_n dX12_worth_9 rfl ?_
    refine kw_Si [_] mX12_isSide dX12_worth_10 lX12_105 wX12_isSide rfl rfl rfl (qX12_isSide hu _) (by decide) ?_
    refine kw_beq dX12_worth_13 25 (by decide) (fun h2 => ?_) (fun h2 => ?_)
    · have hS : kworth a p0 p1 p2 = (-1000001, kF a 1) := if_pos (Or.inl (Or.inr (kIn_n h2)))
      refine kv_aload_n dX12_worth_25 rfl ?_
      refine kv_ldc dX12_worth_26 kX12_83 ?_
      refine kw_Vi [_] mX12_finding dX12_worth_28 lX12_84 wX12_finding kC12 hu rfl (by first | rfl | assumption) rfl rfl rfl (qX12_finding hu 1 (by decide) (by decide) _ (by decide)) (by decide) ?_
      exact kv_iret dX12_worth_31 rfl (by rw [hS]; exact kOM.no hm hu rfl)
    · have n3 : ¬ kOut p1 0 1 := kIn_y h2
      refine kv_iload_n dX12_worth_16 rfl ?_
      refine kv_iconst dX12_worth_17 0 ki_0 ?_
      refine kv_iconst dX12_worth_18 5 ki_5 ?_
      refine kw_Si [_, _, _] mX12_within dX12_worth_19 lX12_78 wX12_within rfl rfl rfl (qX12_within hu _ _ _) (by decide) ?_
      refine kw_bne dX12_worth_22 32 (by decide) (fun h3 => ?_) (fun h3 => ?_)
      · have n2 : ¬ kOut p2 0 5 := kIn_y h3
        have hS : kworth a p0 p1 p2 = _ := if_neg (fun q => q.elim (fun q => q.elim n1 n3) n2)
        obtain ⟨x, hx2, rfl⟩ := hg.at (k := 2) rfl n1
        rw [nI_clamp (by omega)] at hS
        obtain ⟨s, hs2, rfl⟩ := kOut.bd (n := 1) (by omega) n3
        rw [nI_clamp (by omega)] at hS
        have hs : s < 2 := by omega
        refine kv_iload_n dX12_worth_32 rfl ?_
        by_cases h4 : p2.toInt < 0 ∨ 4 < p2.toInt
        · refine kv_tableOut dX12_worth_33 125 h4 (by decide) ?_
          obtain rfl : p2 = 5 := kn_i32 (by have := kOut.i n2; rw [kT0, kT5] at this; rw [kT5]; omega)
          refine kv_aload_n dX12_worth_125 rfl ?_
          refine kv_iload_n dX12_worth_126 rfl ?_
          refine kv_iload_n dX12_worth_127 rfl ?_
          refine kw_Vpi [_, _] mX12_claimOf dX12_worth_128 lX12_180 wX12_claimOf kC12 hu rfl (by first | rfl | assumption) rfl rfl rfl (qX12_claimOf hu eg hg x s hx2 hs) (by decide) (fun v1 e1 => ?_)
          have hu1 := e1.wd hu
          have E1 := e1
          have eg1 : v1.2.1 414 = a 0 := (E1.row kSM_now).trans eg
          exact kv_iret dX12_worth_131 rfl (by rw [hS]; exact kOM.id hm hu E1 rfl)
        · rcases (show p2.toInt = 0 ∨ p2.toInt = 1 ∨ p2.toInt = 2 ∨ p2.toInt = 3 ∨ p2.toInt = 4 by omega) with hv | hv | hv | hv | hv
          · obtain rfl : p2 = 0 := kn_i32 (by rw [hv]; decide)
            refine kv_tableIn dX12_worth_33 68 (by decide) (by decide) rfl (by decide) ?_
            refine kv_aload_n dX12_worth_68 rfl ?_
            refine kv_iload_n dX12_worth_69 rfl ?_
            refine kv_iload_n dX12_worth_70 rfl ?_
            refine kw_Vi [_, _] mX12_repair dX12_worth_71 lX12_168 wX12_repair kC12 hu rfl (by first | rfl | assumption) rfl rfl rfl (gX12_repair hu eg hg x s hx2 hs) (by decide) ?_
            exact kv_iret dX12_worth_74 rfl (by rw [hS]; exact kOM.id hm hu kEq.rf rfl)
          · obtain rfl : p2 = 1 := kn_i32 (by rw [hv]; decide)
            refine kv_tableIn dX12_worth_33 75 (by decide) (by decide) rfl (by decide) ?_
            refine kv_aload_n dX12_worth_75 rfl ?_
            refine kv_iload_n dX12_worth_76 rfl ?_
            refine kv_iload_n dX12_worth_77 rfl ?_
            refine kw_Vi [_, _] mX12_isTotal dX12_worth_78 lX12_171 wX12_isTotal kC12 hu rfl (by first | rfl | assumption) rfl rfl rfl (gX12_isTotal hu eg hg x s hx2 hs) (by decide) ?_
            refine kw_beq dX12_worth_81 88 (by decide) (fun h5 => ?_) (fun h5 => ?_)
            · have hT := h5
              refine kv_iconst dX12_worth_88 0 ki_0 ?_
              exact kv_iret dX12_worth_89 rfl (by rw [hS]; exact kOM.id hm hu kEq.rf (by first | exact (if_pos hT).symm | exact (if_neg hT).symm))
            · have hT := h5
              refine kv_iconst dX12_worth_84 1 ki_1 ?_
              refine kv_goto dX12_worth_85 89 (by decide) ?_
              exact kv_iret dX12_worth_89 rfl (by rw [hS]; exact kOM.id hm hu kEq.rf (by first | exact (if_pos hT).symm | exact (if_neg hT).symm))
          · obtain rfl : p2 = 2 := kn_i32 (by rw [hv]; decide)
            refine kv_tableIn dX12_worth_33 90 (by decide) (by decide) rfl (by decide) ?_
            refine kv_aload_n dX12_worth_90 rfl ?_
            refine kv_iload_n dX12_worth_91 rfl ?_
            refine kv_iload_n dX12_worth_92 rfl ?_
            refine kw_Vi [_, _] mX12_lossOf dX12_worth_93 lX12_174 wX12_lossOf kC12 hu rfl (by first | rfl | assumption) rfl rfl rfl (gX12_lossOf hu eg hg x s hx2 hs) (by decide) ?_
            exact kv_iret dX12_worth_96 rfl (by rw [hS]; exact kOM.id hm hu kEq.rf rfl)
          · obtain rfl : p2 = 3 := kn_i32 (by rw [hv]; decide)
            refine kv_tableIn dX12_worth_33 97 (by decide) (by decide) rfl (by decide) ?_
            refine kv_aload_n dX12_worth_97 rfl ?_
            refine kv_iload_n dX12_worth_98 rfl ?_
            refine kv_iload_n dX12_worth_99 rfl ?_
            refine kw_Vi [_, _] mX12_hireDays dX12_worth_100 lX12_177 wX12_hireDays kC12 hu rfl (by first | rfl | assumption) rfl rfl rfl (gX12_hireDays hu eg hg x s hx2 hs) (by decide) ?_
            exact kv_iret dX12_worth_103 rfl (by rw [hS]; exact kOM.id hm hu kEq.rf rfl)
          · obtain rfl : p2 = 4 := kn_i32 (by rw [hv]; decide)
            refine kv_tableIn dX12_worth_33 104 (by decide) (by decide) rfl (by decide) ?_
            refine kv_aload_n dX12_worth_104 rfl ?_
            refine kv_iload_n dX12_worth_105 rfl ?_
            refine kv_iload_n dX12_worth_106 rfl ?_
            refine kw_Vi [_, _] mX12_isTotal dX12_worth_107 lX12_171 wX12_isTotal kC12 hu rfl (by first | rfl | assumption) rfl rfl rfl (gX12_isTotal hu eg hg x s hx2 hs) (by decide) ?_
            refine kw_beq dX12_worth_110 117 (by decide) (fun h6 => ?_) (fun h6 => ?_)
            · have hT := h6
              refine kv_aload_n dX12_worth_117 rfl ?_
              refine kv_iload_n dX12_worth_118 rfl ?_
              refine kv_iload_n dX12_worth_119 rfl ?_
              refine kv_iconst dX12_worth_120 2 ki_2 ?_
              refine kw_Vi [_, _, _] mX12_zonesOf dX12_worth_121 lX12_162 wX12_zonesOf kC12 hu rfl (by first | rfl | assumption) rfl rfl rfl (gX12_zonesOf hu eg hg x s hx2 hs 2 (by decide)) (by decide) ?_
              exact kv_iret dX12_worth_124 rfl (by rw [hS]; exact kOM.id hm hu kEq.rf (by first | exact (if_pos hT).symm | exact (if_neg hT).symm))
            · have hT := h6
              refine kv_iconst dX12_worth_113 0 ki_0 ?_
              refine kv_goto dX12_worth_114 124 (by decide) ?_
              exact kv_iret dX12_worth_124 rfl (by rw [hS]; exact kOM.id hm hu kEq.rf (by first | exact (if_pos hT).symm | exact (if_neg hT).symm))
      · have hS : kworth a p0 p1 p2 = (-1000001, kF a 1) := if_pos (Or.inr (kIn_n h3))
        refine kv_aload_n dX12_worth_25 rfl ?_
        refine kv_ldc dX12_worth_26 kX12_83 ?_
        refine kw_Vi [_] mX12_finding dX12_worth_28 lX12_84 wX12_finding kC12 hu rfl (by first | rfl | assumption) rfl rfl rfl (qX12_finding hu 1 (by decide) (by decide) _ (by decide)) (by decide) ?_
        exact kv_iret dX12_worth_31 rfl (by rw [hS]; exact kOM.no hm hu rfl)

set_option maxRecDepth 20000 in
set_option maxHeartbeats 4000000 in
theorem qX11_back {w : KW} {l : Launch} {u : KMem} (hu : kWd u) {a : KA} (hx : kRX a u) (ho : kOk a) (p0 p1 p2 : Int32) : KC w l mX11_back 5 0 0 [.ref 0, .int p0, .int p1, .int p2] u (kOX u (kback a p0 p1 p2).1 (kback a p0 p1 p2).2) := by
  have hr := hx.1
  have hg := ho.1
  have hx20 := (hg.cnt (k := 2) rfl).2
  have hc30 := (hg.cnt (k := 0) rfl).2
  have ht10 := (hg.cnt (k := 3) rfl).2
  have he40 := (hg.cnt (k := 4) rfl).2
  have hs16 := hg.cnt (k := 1) rfl
  refine KC.of (ls := [_, _, _, _]) rfl rfl (Nat.le_of_ble_eq_true rfl) ?_
  refine kv_aload_n dX11_back_0 rfl ?_
  refine kv_iload_n dX11_back_1 rfl ?_
  refine kv_iload_n dX11_back_2 rfl ?_
  refine kw_Vi [_, _] mX11_noSide dX11_back_3 lX11_144 wX11_noSide kC11 hu rfl (by first | rfl | assumption) rfl rfl rfl (qX11_noSide hu _ _) (by decide) ?_
  refine kw_bne dX11_back_6 19 (by decide) (fun h1 => ?_) (fun h1 => ?_)
  · rw [hr.n2] at h1
    have hS : kback a p0 p1 p2 = (-1000001, kF a 1) := if_pos (Or.inl h1)
    refine kv_aload_n dX11_back_19 rfl ?_
    refine kv_ldc dX11_back_20 kX11_74 ?_
    refine kw_Vi [_] mX11_refuse dX11_back_22 lX11_75 wX11_refuse kC11 hu rfl (by first | rfl | assumption) rfl rfl rfl (qX11_refuse hu 1 (by decide) (by decide) _ (by decide)) (by decide) ?_
    exact kv_iret dX11_back_25 rfl (by rw [hS]; exact kOX.no hx ho hu (by decide) rfl)
  · rw [hr.n2] at h1
    have n1 : ¬ kOut p0 0 (a 0 2 - 1) := fun q => h1 (Or.inl q)
    have n3 : ¬ kOut p1 0 1 := fun q => h1 (Or.inr q)
    refine kv_iload_n dX11_back_9 rfl ?_
    refine kv_iconst dX11_back_10 0 ki_0 ?_
    refine kv_ldc dX11_back_11 kX11_217 ?_
    refine kw_Si [_, _, _] mX11_outside dX11_back_13 lX11_69 wX11_outside rfl rfl rfl (qX11_outside hu _ _ _) (by decide) ?_
    refine kw_beq dX11_back_16 26 (by decide) (fun h2 => ?_) (fun h2 => ?_)
    · have n2 : ¬ kOut p2 0 999999 := h2
      have hS : kback a p0 p1 p2 = _ := if_neg (fun q => q.elim (fun q => q.elim n1 n3) n2)
      obtain ⟨x, hx2, rfl⟩ := hg.at (k := 2) rfl n1
      rw [nI_clamp (by omega)] at hS
      obtain ⟨s, hs2, rfl⟩ := kOut.bd (n := 1) (by omega) n3
      rw [nI_clamp (by omega)] at hS
      have hs : s < 2 := by omega
      have kx := ks_crash x (by omega)
      have kx1 := kx.1
      have kx2 := kx.2.1
      have kx3 := kx.2.2.1
      have kx4 := kx.2.2.2.1
      have kx5 := kx.2.2.2.2.1
      have kx6 := kx.2.2.2.2.2
      refine kv_aload_n dX11_back_26 rfl ?_
      refine kw_gR dX11_back_27 fX11_24 hu (by first | rfl | assumption) rfl rfl (by first | rfl | assumption) ?_
      refine kv_aload_n dX11_back_30 rfl ?_
      refine kw_gR dX11_back_31 fX11_12 hu (by first | rfl | assumption) rfl rfl (by first | rfl | assumption) ?_
      refine kw_gR dX11_back_34 fX11_137 hu (by first | rfl | assumption) rfl rfl (by first | rfl | assumption) ?_
      refine kv_iload_n dX11_back_37 rfl ?_
      refine kw_al (t := 1) (n := 20) dX11_back_38 hu rfl rfl (x) rfl (by omega) rfl (by first | rfl | assumption) ?_
      refine kv_iload_n dX11_back_39 rfl ?_
      refine kv_iload_n dX11_back_40 rfl ?_
      refine kw_Vpi [_, _, _] mX3_goesBack dX11_back_41 lX11_218 wX3_goesBack kC3 hu rfl (by first | rfl | assumption) rfl rfl rfl (qX3_goesBack hu hr hg x hx2 s hs p2) (by decide) (fun v1 e1 => ?_)
      have hu1 := e1.wd hu
      have E1 := e1
      exact kv_iret dX11_back_44 rfl (by rw [hS]; exact kOX.id hx ho hu E1 rfl)
    · have hS : kback a p0 p1 p2 = (-1000001, kF a 1) := if_pos (Or.inr h2)
      refine kv_aload_n dX11_back_19 rfl ?_
      refine kv_ldc dX11_back_20 kX11_74 ?_
      refine kw_Vi [_] mX11_refuse dX11_back_22 lX11_75 wX11_refuse kC11 hu rfl (by first | rfl | assumption) rfl rfl rfl (qX11_refuse hu 1 (by decide) (by decide) _ (by decide)) (by decide) ?_
      exact kv_iret dX11_back_25 rfl (by rw [hS]; exact kOX.no hx ho hu (by decide) rfl)

set_option maxRecDepth 20000 in
set_option maxHeartbeats 4000000 in
theorem qX12_back {w : KW} {l : Launch} {u : KMem} (hu : kWd u) {a : KA} (hm : kRM a u) (ho : kOk a) (p0 p1 p2 : Int32) : KC w l mX12_back 7 0 0 [.ref 413, .int p0, .int p1, .int p2] u (kOM u (kback a p0 p1 p2).1 (kback a p0 p1 p2).2) := by
  have eg := hm.1
  have hg := ho.1
  have hx20 := (hg.cnt (k := 2) rfl).2
  have hc30 := (hg.cnt (k := 0) rfl).2
  have ht10 := (hg.cnt (k := 3) rfl).2
  have he40 := (hg.cnt (k := 4) rfl).2
  have hs16 := hg.cnt (k := 1) rfl
  refine KC.of (ls := [_, _, _, _, _, _]) rfl rfl (Nat.le_of_ble_eq_true rfl) ?_
  refine kv_aload_n dX12_back_0 rfl ?_
  refine kv_iload_n dX12_back_1 rfl ?_
  refine kv_iconst dX12_back_2 2 ki_2 ?_
  refine kw_Vi [_, _] mX12_is dX12_back_3 lX12_93 wX12_is kC12 hu rfl (by first | rfl | assumption) rfl rfl rfl (gX12_is hu eg _ 2 (by omega)) (by decide) ?_
  refine kw_beq dX12_back_6 26 (by decide) (fun h1 => ?_) (fun h1 => ?_)
  · have hS : kback a p0 p1 p2 = (-1000001, kF a 1) := if_pos (Or.inl (Or.inl (kIn_n h1)))
    refine kv_aload_n dX12_back_26 rfl ?_
    refine kv_ldc dX12_back_27 kX12_83 ?_
    refine kw_Vi [_] mX12_finding dX12_back_29 lX12_84 wX12_finding kC12 hu rfl (by first | rfl | assumption) rfl rfl rfl (qX12_finding hu 1 (by decide) (by decide) _ (by decide)) (by decide) ?_
    exact kv_iret dX12_back_32 rfl (by rw [hS]; exact kOM.no hm hu rfl)
  · have n1 : ¬ kOut p0 0 (a 0 2 - 1) := kIn_y h1
    refine kv_iload_n dX12_back_9 rfl ?_
    refine kw_Si [_] mX12_isSide dX12_back_10 lX12_105 wX12_isSide rfl rfl rfl (qX12_isSide hu _) (by decide) ?_
    refine kw_beq dX12_back_13 26 (by decide) (fun h2 => ?_) (fun h2 => ?_)
    · have hS : kback a p0 p1 p2 = (-1000001, kF a 1) := if_pos (Or.inl (Or.inr (kIn_n h2)))
      refine kv_aload_n dX12_back_26 rfl ?_
      refine kv_ldc dX12_back_27 kX12_83 ?_
      refine kw_Vi [_] mX12_finding dX12_back_29 lX12_84 wX12_finding kC12 hu rfl (by first | rfl | assumption) rfl rfl rfl (qX12_finding hu 1 (by decide) (by decide) _ (by decide)) (by decide) ?_
      exact kv_iret dX12_back_32 rfl (by rw [hS]; exact kOM.no hm hu rfl)
    · have n3 : ¬ kOut p1 0 1 := kIn_y h2
      refine kv_iload_n dX12_back_16 rfl ?_
      refine kv_iconst dX12_back_17 0 ki_0 ?_
      refine kv_ldc dX12_back_18 kX12_183 ?_
      refine kw_Si [_, _, _] mX12_within dX12_back_20 lX12_78 wX12_within rfl rfl rfl (qX12_within hu _ _ _) (by decide) ?_
      refine kw_bne dX12_back_23 33 (by decide) (fun h3 => ?_) (fun h3 => ?_)
      · have n2 : ¬ kOut p2 0 999999 := kIn_y h3
        have hS : kback a p0 p1 p2 = _ := if_neg (fun q => q.elim (fun q => q.elim n1 n3) n2)
        obtain ⟨x, hx2, rfl⟩ := hg.at (k := 2) rfl n1
        rw [nI_clamp (by omega)] at hS
        obtain ⟨s, hs2, rfl⟩ := kOut.bd (n := 1) (by omega) n3
        rw [nI_clamp (by omega)] at hS
        have hs : s < 2 := by omega
        refine kv_aload_n dX12_back_33 rfl ?_
        refine kv_iconst dX12_back_34 1 ki_1 ?_
        refine kv_aload_n dX12_back_35 rfl ?_
        refine kv_iload_n dX12_back_36 rfl ?_
        refine kv_iconst dX12_back_37 2 ki_2 ?_
        refine kw_Vi [_, _] mX12_crash_ dX12_back_38 lX12_113 wX12_crash_ kC12 hu rfl (by first | rfl | assumption) rfl rfl rfl (gX12_crash_ hu eg x 2 (by omega) (by decide)) (by decide) ?_
        refine kw_Vi [_, _] mX12_inForce dX12_back_41 lX12_142 wX12_inForce kC12 hu rfl (by first | rfl | assumption) rfl rfl rfl (gX12_inForce hu eg hg _ _) (by decide) ?_
        refine kv_istore (ls2 := [_, _, _, _, _, _]) dX12_back_44 rfl rfl rfl rfl ?_
        refine kv_aload_n dX12_back_46 rfl ?_
        refine kv_aload_n dX12_back_47 rfl ?_
        refine kv_iload_n dX12_back_48 rfl ?_
        refine kv_iload_n dX12_back_49 rfl ?_
        refine kw_Vi [_, _] mX12_carOf dX12_back_50 lX12_116 wX12_carOf kC12 hu rfl (by first | rfl | assumption) rfl rfl rfl (gX12_carOf hu eg x s (by omega) hs) (by decide) ?_
        refine kv_iconst dX12_back_53 3 ki_3 ?_
        rw [(hg.carOf hx2 hs).1]
        refine kw_Vi [_, _] mX12_car dX12_back_54 lX12_89 wX12_car kC12 hu rfl (by first | rfl | assumption) rfl rfl rfl (gX12_car hu eg _ 3 (by have := (hg.carOf hx2 hs).2; omega) (by decide)) (by decide) ?_
        refine kv_istore (ls2 := [_, _, _, _, _, _]) dX12_back_57 rfl rfl rfl rfl ?_
        refine kv_iload dX12_back_59 rfl ?_
        refine kv_if_ge dX12_back_61 73 (by decide) (fun h4 => ?_) (fun h4 => ?_)
        · have hT := kInF_ge (by omega) h4
          have hc := h4
          have hq := (hg.carOf hx2 hs).2
          refine kv_aload_n dX12_back_73 rfl ?_
          refine kv_iload dX12_back_74 rfl ?_
          refine kv_iload_n dX12_back_76 rfl ?_
          refine kv_iload dX12_back_77 rfl ?_
          refine kv_aload_n dX12_back_79 rfl ?_
          refine kv_iload_n dX12_back_80 rfl ?_
          refine kv_iload_n dX12_back_81 rfl ?_
          refine kw_Vi [_, _] mX12_lossOf dX12_back_82 lX12_174 wX12_lossOf kC12 hu rfl (by first | rfl | assumption) rfl rfl rfl (gX12_lossOf hu eg hg x s hx2 hs) (by decide) ?_
          refine kv_iconst dX12_back_85 0 ki_0 ?_
          rw [hT.2]
          refine kw_Vpi [_, _, _, _, _] mX12_given dX12_back_86 lX12_152 wX12_given kC12 hu rfl (by first | rfl | assumption) rfl rfl rfl (gX12_given hu eg hg _ hT.1 _ _ _ _) (by decide) (fun v1 e1 => ?_)
          have hu1 := e1.wd hu
          have E1 := e1
          have eg1 : v1.2.1 414 = a 0 := (E1.row kSM_now).trans eg
          refine kv_iload_n dX12_back_89 rfl ?_
          refine kw_Si [_, _] mX12_hold dX12_back_90 lX12_156 wX12_hold rfl rfl rfl (qX12_hold hu1 _ _) (by decide) ?_
          exact kv_iret dX12_back_93 rfl (by rw [hS]; exact kOM.id hm hu E1 (by unfold kBk; first | (rw [if_pos hc]; rfl) | (rw [if_neg hc]; rfl)))
        · have hc := h4
          refine kv_iload_n dX12_back_64 rfl ?_
          refine kv_iload dX12_back_65 rfl ?_
          refine kw_mmin dX12_back_67 lX12_131 rfl (by omega) ?_
          refine kv_goto dX12_back_70 89 (by decide) ?_
          refine kv_iload_n dX12_back_89 rfl ?_
          refine kw_Si [_, _] mX12_hold dX12_back_90 lX12_156 wX12_hold rfl rfl rfl (qX12_hold hu _ _) (by decide) ?_
          exact kv_iret dX12_back_93 rfl (by rw [hS]; exact kOM.id hm hu kEq.rf (by unfold kBk; first | (rw [if_pos hc]; rfl) | (rw [if_neg hc]; rfl)))
      · have hS : kback a p0 p1 p2 = (-1000001, kF a 1) := if_pos (Or.inr (kIn_n h3))
        refine kv_aload_n dX12_back_26 rfl ?_
        refine kv_ldc dX12_back_27 kX12_83 ?_
        refine kw_Vi [_] mX12_finding dX12_back_29 lX12_84 wX12_finding kC12 hu rfl (by first | rfl | assumption) rfl rfl rfl (qX12_finding hu 1 (by decide) (by decide) _ (by decide)) (by decide) ?_
        exact kv_iret dX12_back_32 rfl (by rw [hS]; exact kOM.no hm hu rfl)

