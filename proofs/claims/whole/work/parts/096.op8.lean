/-! crash -/
set_option maxRecDepth 20000 in
set_option maxHeartbeats 4000000 in
theorem qX1_become {w : KW} {l : Launch} {u : KMem} (hu : kWd u) (x : Nat) (hx : x < 20) (p0 p1 p2 p3 : Int32) : KC w l mX1_become 1 0 0 [.ref (1 + (72 + 3 * x)), .int p0, .int p1, .int p2, .int p3] u (kq none (kv_si (kv_si (kv_si (kFl (kv_si (kv_si u (1 + (72 + 3 * x + 1)) 0 p0) (1 + (72 + 3 * x + 1)) 1 p1) (1 + (72 + 3 * x + 2)) 2 0) (1 + (72 + 3 * x)) 2 (p2 / 100)) (1 + (72 + 3 * x)) 3 (p2 - p2 / 100 * 100)) (1 + (72 + 3 * x)) 4 p3)) := by
  refine KC.of (ls := [_, _, _, _, _]) rfl rfl (Nat.le_of_ble_eq_true rfl) ?_
  have kx := ks_crash x (by omega)
  have kx1 := kx.1
  have kx2 := kx.2.1
  have kx3 := kx.2.2.1
  have kx4 := kx.2.2.2.1
  have kx5 := kx.2.2.2.2.1
  have kx6 := kx.2.2.2.2.2
  refine kv_aload_n dX1_become_0 rfl ?_
  refine kw_gR dX1_become_1 fX1_9 hu (by first | rfl | assumption) rfl rfl (by first | rfl | assumption) ?_
  refine kv_iconst dX1_become_4 0 ki_0 ?_
  refine kv_iload_n dX1_become_5 rfl ?_
  refine kw_is dX1_become_6 hu (by first | rfl | assumption) (_) (show (0 : Int32) = nI 0 from rfl) (by omega) rfl ?_
  refine kv_aload_n dX1_become_7 rfl ?_
  refine kw_gR dX1_become_8 fX1_9 hu (by first | rfl | assumption) rfl rfl (by first | rfl | assumption) ?_
  refine kv_iconst dX1_become_11 1 ki_1 ?_
  refine kv_iload_n dX1_become_12 rfl ?_
  refine kw_is dX1_become_13 hu (by first | rfl | assumption) (_) (show (1 : Int32) = nI 1 from rfl) (by omega) rfl ?_
  refine kv_aload_n dX1_become_14 rfl ?_
  refine kw_gR dX1_become_15 fX1_15 hu (by first | rfl | assumption) rfl rfl (by first | rfl | assumption) ?_
  refine kv_iconst dX1_become_18 0 ki_0 ?_
  refine kw_Sv [_, _] mJ7_fill_53178 dX1_become_19 lX1_18 wJ7_fill_53178 rfl rfl rfl (qJ7_fill_53178 (by exact hu) kx3 (by omega) rfl _) (by decide) ?_
  refine kv_aload_n dX1_become_22 rfl ?_
  refine kv_iload_n dX1_become_23 rfl ?_
  refine kv_bipush dX1_become_24 100 kb_100 ?_
  refine kv_idiv dX1_become_26 (by decide) ?_
  refine kw_pI dX1_become_27 fX1_24 hu (by first | rfl | assumption) rfl rfl ?_
  refine kv_aload_n dX1_become_30 rfl ?_
  refine kv_iload_n dX1_become_31 rfl ?_
  refine kv_bipush dX1_become_32 100 kb_100 ?_
  refine kv_irem dX1_become_34 (by decide) ?_
  refine kw_pI dX1_become_35 fX1_28 hu (by first | rfl | assumption) rfl rfl ?_
  refine kv_aload_n dX1_become_38 rfl ?_
  refine kv_iload dX1_become_39 rfl ?_
  refine kw_pI dX1_become_41 fX1_31 hu (by first | rfl | assumption) rfl rfl ?_
  exact kv_vret dX1_become_44 rfl ⟨rfl, rfl⟩

def kcrashG (g : Nat → Int32) (p0 p1 p2 : Int32) : Nat → Int32 := (kSet (kSet (kSet (kSet (kSet (kSet (kSet (kSet g (328 + 7 * kN g 2 + 0) (p0 / 100)) (328 + 7 * kN g 2 + 0 + 1) (p0 - p0 / 100 * 100)) (328 + 7 * kN g 2 + 2) (p1 / 100)) (328 + 7 * kN g 2 + 3) (p1 - p1 / 100 * 100)) (328 + 7 * kN g 2 + 4) p2) (328 + 7 * kN g 2 + 5) 0) (328 + 7 * kN g 2 + 5 + 1) 0) (2) (g 2 + 1))
def kcrash (a : KA) (p0 p1 p2 : Int32) : Int32 × KA := if p0 < 0 ∨ kOut (p0 / 100) 0 (a 0 0 - 1) ∨ kOut (p0 - p0 / 100 * 100) 0 (a 0 0 - 1) ∨ kOut p1 0 99999 ∨ kOut p2 0 65535 then (-1000001, kF a 1) else if a 0 (40 + 8 * (p0 / 100).toNatClampNeg + 0) = a 0 (40 + 8 * (p0 - p0 / 100 * 100).toNatClampNeg + 0) then (-1000005, kF a 5) else if a 0 2 < 20 then (nI (kN (a 0) 2), kUp1 a 0 (kcrashG (a 0) p0 p1 p2)) else (-1000004, kF a 4)
set_option maxRecDepth 20000 in
set_option maxHeartbeats 4000000 in
theorem qX11_crash {w : KW} {l : Launch} {u : KMem} (hu : kWd u) {a : KA} (hx : kRX a u) (ho : kOk a) (p0 p1 p2 : Int32) : KC w l mX11_crash 2 0 0 [.ref 0, .int p0, .int p1, .int p2] u (kOX u (kcrash a p0 p1 p2).1 (kcrash a p0 p1 p2).2) := by
  have hr := hx.1
  have hg := ho.1
  have hx20 := (hg.cnt (k := 2) rfl).2
  have hc30 := (hg.cnt (k := 0) rfl).2
  have ht10 := (hg.cnt (k := 3) rfl).2
  have he40 := (hg.cnt (k := 4) rfl).2
  have hs16 := hg.cnt (k := 1) rfl
  refine KC.of (ls := [_, _, _, _, _, _, _, _]) rfl rfl (Nat.le_of_ble_eq_true rfl) ?_
  have hw := hg.cnt (k := 2) rfl
  refine kv_iload_n dX11_crash_0 rfl ?_
  refine kv_if_lt dX11_crash_1 46 (by decide) (fun h1 => ?_) (fun h1 => ?_)
  · have hS : kcrash a p0 p1 p2 = (-1000001, kF a 1) := if_pos (Or.inl h1)
    refine kv_aload_n dX11_crash_46 rfl ?_
    refine kv_ldc dX11_crash_47 kX11_74 ?_
    refine kw_Vi [_] mX11_refuse dX11_crash_49 lX11_75 wX11_refuse kC11 hu rfl (by first | rfl | assumption) rfl rfl rfl (qX11_refuse hu 1 (by decide) (by decide) _ (by decide)) (by decide) ?_
    exact kv_iret dX11_crash_52 rfl (by rw [hS]; exact kOX.no hx ho hu (by decide) rfl)
  · have n1 : ¬ p0 < 0 := h1
    refine kv_aload_n dX11_crash_4 rfl ?_
    refine kv_iload_n dX11_crash_5 rfl ?_
    refine kv_bipush dX11_crash_6 100 kb_100 ?_
    refine kv_idiv dX11_crash_8 (by decide) ?_
    refine kw_Vi [_] mX11_noCar dX11_crash_9 lX11_94 wX11_noCar kC11 hu rfl (by first | rfl | assumption) rfl rfl rfl (qX11_noCar hu _) (by decide) ?_
    refine kw_bne dX11_crash_12 46 (by decide) (fun h2 => ?_) (fun h2 => ?_)
    · rw [hr.n0] at h2
      have hS : kcrash a p0 p1 p2 = (-1000001, kF a 1) := if_pos (Or.inr (Or.inl h2))
      refine kv_aload_n dX11_crash_46 rfl ?_
      refine kv_ldc dX11_crash_47 kX11_74 ?_
      refine kw_Vi [_] mX11_refuse dX11_crash_49 lX11_75 wX11_refuse kC11 hu rfl (by first | rfl | assumption) rfl rfl rfl (qX11_refuse hu 1 (by decide) (by decide) _ (by decide)) (by decide) ?_
      exact kv_iret dX11_crash_52 rfl (by rw [hS]; exact kOX.no hx ho hu (by decide) rfl)
    · rw [hr.n0] at h2
      have n2 : ¬ kOut (p0 / 100) 0 (a 0 0 - 1) := h2
      refine kv_aload_n dX11_crash_15 rfl ?_
      refine kv_iload_n dX11_crash_16 rfl ?_
      refine kv_bipush dX11_crash_17 100 kb_100 ?_
      refine kv_irem dX11_crash_19 (by decide) ?_
      refine kw_Vi [_] mX11_noCar dX11_crash_20 lX11_94 wX11_noCar kC11 hu rfl (by first | rfl | assumption) rfl rfl rfl (qX11_noCar hu _) (by decide) ?_
      refine kw_bne dX11_crash_23 46 (by decide) (fun h3 => ?_) (fun h3 => ?_)
      · rw [hr.n0] at h3
        have hS : kcrash a p0 p1 p2 = (-1000001, kF a 1) := if_pos (Or.inr (Or.inr (Or.inl h3)))
        refine kv_aload_n dX11_crash_46 rfl ?_
        refine kv_ldc dX11_crash_47 kX11_74 ?_
        refine kw_Vi [_] mX11_refuse dX11_crash_49 lX11_75 wX11_refuse kC11 hu rfl (by first | rfl | assumption) rfl rfl rfl (qX11_refuse hu 1 (by decide) (by decide) _ (by decide)) (by decide) ?_
        exact kv_iret dX11_crash_52 rfl (by rw [hS]; exact kOX.no hx ho hu (by decide) rfl)
      · rw [hr.n0] at h3
        have n3 : ¬ kOut (p0 - p0 / 100 * 100) 0 (a 0 0 - 1) := h3
        refine kv_iload_n dX11_crash_26 rfl ?_
        refine kv_iconst dX11_crash_27 0 ki_0 ?_
        refine kv_ldc dX11_crash_28 kX11_73 ?_
        refine kw_Si [_, _, _] mX11_outside dX11_crash_30 lX11_69 wX11_outside rfl rfl rfl (qX11_outside hu _ _ _) (by decide) ?_
        refine kw_bne dX11_crash_33 46 (by decide) (fun h4 => ?_) (fun h4 => ?_)
        · have hS : kcrash a p0 p1 p2 = (-1000001, kF a 1) := if_pos (Or.inr (Or.inr (Or.inr (Or.inl h4))))
          refine kv_aload_n dX11_crash_46 rfl ?_
          refine kv_ldc dX11_crash_47 kX11_74 ?_
          refine kw_Vi [_] mX11_refuse dX11_crash_49 lX11_75 wX11_refuse kC11 hu rfl (by first | rfl | assumption) rfl rfl rfl (qX11_refuse hu 1 (by decide) (by decide) _ (by decide)) (by decide) ?_
          exact kv_iret dX11_crash_52 rfl (by rw [hS]; exact kOX.no hx ho hu (by decide) rfl)
        · have n4 : ¬ kOut p1 0 99999 := h4
          refine kv_iload_n dX11_crash_36 rfl ?_
          refine kv_iconst dX11_crash_37 0 ki_0 ?_
          refine kv_ldc dX11_crash_38 kX11_120 ?_
          refine kw_Si [_, _, _] mX11_outside dX11_crash_40 lX11_69 wX11_outside rfl rfl rfl (qX11_outside hu _ _ _) (by decide) ?_
          refine kw_beq dX11_crash_43 53 (by decide) (fun h5 => ?_) (fun h5 => ?_)
          · have n5 : ¬ kOut p2 0 65535 := h5
            obtain ⟨c0, hc0, e0⟩ := hg.at (k := 0) rfl n2
            obtain ⟨c1, hc1, e1⟩ := hg.at (k := 0) rfl n3
            have hS : kcrash a p0 p1 p2 = _ := if_neg (fun q => q.elim n1 (fun q => q.elim n2 (fun q => q.elim n3 (fun q => q.elim n4 n5))))
            rw [e1, e0, nI_clamp (by omega), nI_clamp (by omega)] at hS
            have kc0 := ks_car c0 (by omega)
            have kc0a := kc0.1
            have kc0b := kc0.2.1
            have kc0c := kc0.2.2.1
            have kc0d := kc0.2.2.2
            have kc1 := ks_car c1 (by omega)
            have kc1a := kc1.1
            have kc1b := kc1.2.1
            have kc1c := kc1.2.2.1
            have kc1d := kc1.2.2.2
            refine kv_aload_n dX11_crash_53 rfl ?_
            refine kw_gR dX11_crash_54 fX11_12 hu (by first | rfl | assumption) rfl rfl (by first | rfl | assumption) ?_
            refine kw_gR dX11_crash_57 fX11_84 hu (by first | rfl | assumption) rfl rfl (by first | rfl | assumption) ?_
            refine kv_iload_n dX11_crash_60 rfl ?_
            refine kv_bipush dX11_crash_61 100 kb_100 ?_
            refine kv_idiv dX11_crash_63 (by decide) ?_
            refine kw_al (t := 0) (n := 30) dX11_crash_64 hu rfl rfl (c0) e0 (by omega) rfl (by first | rfl | assumption) ?_
            refine kv_astore (ls2 := [_, _, _, _, _, _, _, _]) dX11_crash_65 rfl rfl rfl rfl ?_
            refine kv_aload_n dX11_crash_67 rfl ?_
            refine kw_gR dX11_crash_68 fX11_12 hu (by first | rfl | assumption) rfl rfl (by first | rfl | assumption) ?_
            refine kw_gR dX11_crash_71 fX11_84 hu (by first | rfl | assumption) rfl rfl (by first | rfl | assumption) ?_
            refine kv_iload_n dX11_crash_74 rfl ?_
            refine kv_bipush dX11_crash_75 100 kb_100 ?_
            refine kv_irem dX11_crash_77 (by decide) ?_
            refine kw_al (t := 0) (n := 30) dX11_crash_78 hu rfl rfl (c1) e1 (by omega) rfl (by first | rfl | assumption) ?_
            refine kv_astore (ls2 := [_, _, _, _, _, _, _, _]) dX11_crash_79 rfl rfl rfl rfl ?_
            refine kv_aload dX11_crash_81 rfl ?_
            refine kw_gI dX11_crash_83 fX11_98 hu (by first | rfl | assumption) rfl rfl ?_
            rw [hr.car hc0 0 (by omega)]
            refine kv_aload dX11_crash_86 rfl ?_
            refine kw_gI dX11_crash_88 fX11_98 hu (by first | rfl | assumption) rfl rfl ?_
            rw [hr.car hc1 0 (by omega)]
            refine kv_icmp_ne dX11_crash_91 101 (by decide) (fun h6 => ?_) (fun h6 => ?_)
            · rw [if_neg h6] at hS
              refine kv_aload_n dX11_crash_101 rfl ?_
              refine kw_gR dX11_crash_102 fX11_12 hu (by first | rfl | assumption) rfl rfl (by first | rfl | assumption) ?_
              refine kw_gI dX11_crash_105 fX11_134 hu (by first | rfl | assumption) rfl rfl ?_
              rw [hr.n2, hw.1]
              refine kv_istore (ls2 := [_, _, _, _, _, _, _, _]) dX11_crash_108 rfl rfl rfl rfl ?_
              refine kv_iload dX11_crash_110 rfl ?_
              refine kv_bipush dX11_crash_112 20 kb_20 ?_
              refine kv_icmp_lt dX11_crash_114 124 (by decide) (fun h7 => ?_) (fun h7 => ?_)
              · rw [if_pos (show a 0 2 < 20 by rw [hw.1]; exact h7)] at hS
                have hlt : kN (a 0) 2 < 20 := (nI_ltI (b := 20) (by omega) (by omega)).mp h7
                have kx := ks_crash (kN (a 0) 2) (by omega)
                have kx1 := kx.1
                have kx2 := kx.2.1
                have kx3 := kx.2.2.1
                have kx4 := kx.2.2.2.1
                have kx5 := kx.2.2.2.2.1
                have kx6 := kx.2.2.2.2.2
                refine kv_iload_n dX11_crash_124 rfl ?_
                refine kv_sipush dX11_crash_125 256 kz_256 ?_
                refine kv_aload dX11_crash_128 rfl ?_
                refine kw_gI dX11_crash_130 fX11_110 hu (by first | rfl | assumption) rfl rfl ?_
                rw [hr.car hc0 4 (by omega)]
                refine kv_imul dX11_crash_133 ?_
                refine kv_aload dX11_crash_134 rfl ?_
                refine kw_gI dX11_crash_136 fX11_110 hu (by first | rfl | assumption) rfl rfl ?_
                rw [hr.car hc1 4 (by omega)]
                refine kv_iadd dX11_crash_139 ?_
                refine kv_iconst dX11_crash_140 (-1) ki_m1 ?_
                refine kv_ixor dX11_crash_141 ?_
                refine kv_iand dX11_crash_142 ?_
                refine kv_istore (ls2 := [_, _, _, _, _, _, _, _]) dX11_crash_143 rfl rfl rfl rfl ?_
                refine kv_aload_n dX11_crash_145 rfl ?_
                refine kw_gR dX11_crash_146 fX11_12 hu (by first | rfl | assumption) rfl rfl (by first | rfl | assumption) ?_
                refine kw_gR dX11_crash_149 fX11_137 hu (by first | rfl | assumption) rfl rfl (by first | rfl | assumption) ?_
                refine kv_iload dX11_crash_152 rfl ?_
                refine kw_al (t := 1) (n := 20) dX11_crash_154 hu rfl rfl (kN (a 0) 2) rfl (by omega) rfl (by first | rfl | assumption) ?_
                refine kv_iload_n dX11_crash_155 rfl ?_
                refine kv_bipush dX11_crash_156 100 kb_100 ?_
                refine kv_idiv dX11_crash_158 (by decide) ?_
                refine kv_iload_n dX11_crash_159 rfl ?_
                refine kv_bipush dX11_crash_160 100 kb_100 ?_
                refine kv_irem dX11_crash_162 (by decide) ?_
                refine kv_iload_n dX11_crash_163 rfl ?_
                refine kv_iload dX11_crash_164 rfl ?_
                refine kw_Vv [_, _, _, _] mX1_become dX11_crash_166 lX11_141 wX1_become kC1 hu rfl (by first | rfl | assumption) rfl rfl rfl (qX1_become hu (kN (a 0) 2) (by omega) _ _ _ _) (by decide) ?_
                refine kv_aload_n dX11_crash_169 rfl ?_
                refine kw_gR dX11_crash_170 fX11_12 hu (by first | rfl | assumption) rfl rfl (by first | rfl | assumption) ?_
                refine kv_iload dX11_crash_173 rfl ?_
                refine kv_iconst dX11_crash_175 1 ki_1 ?_
                refine kv_iadd dX11_crash_176 ?_
                refine kw_pI dX11_crash_177 fX11_134 hu (by first | rfl | assumption) rfl rfl ?_
                refine kv_iload dX11_crash_180 rfl ?_
                exact kv_iret dX11_crash_182 rfl (by
                    rw [hS]
                    have k0 : kCarOf (kcrashG (a 0) p0 p1 p2) (kN (a 0) 2) 0 = c0 := by unfold kCarOf kcrashG; (repeat (first | rw [kSet_n (by omega)] | rw [kSet_s])); rw [e0, nI_clamp (by omega)]
                    have k1 : kCarOf (kcrashG (a 0) p0 p1 p2) (kN (a 0) 2) 1 = c1 := by unfold kCarOf kcrashG; (repeat (first | rw [kSet_n (by omega)] | rw [kSet_s])); rw [e1, nI_clamp (by omega)]
                    refine ⟨rfl, hu, (fun b hb => by repeat (first | rw [kv_si_row (by omega)] | rw [kFl_row (by omega)])), hx.now ho (hr.addCrash hg hlt (fun i hi => by unfold kcrashG; repeat rw [kSet_n (by omega)]) (fun b k q => by repeat (first | rw [kv_si_n (by omega)] | rw [kFl_n (by omega)])) (by rw [kv_si_s]; unfold kcrashG; rw [kSet_s, hw.1]) (kN_suc (by unfold kcrashG; rw [kSet_s]; exact congrArg (· + 1) hw.1) (by omega)) ⟨fun q hq => ?_, fun q hq => ?_, ?_, ?_, ?_⟩) (fun b k hb _ => by repeat (first | rw [kv_si_n (by omega)] | rw [kFl_n (by omega)]))⟩
                    · rcases (show q = 0 ∨ q = 1 by omega) with rfl | rfl <;> (unfold kcrashG; (repeat (first | rw [kv_si_n (by omega)] | rw [kFl_n (by omega)] | rw [kSet_n (by omega)] | rw [kv_si_s] | rw [kFl_s (by omega)] | rw [kSet_s])))
                    · rcases (show q = 0 ∨ q = 1 by omega) with rfl | rfl <;> (unfold kcrashG; (repeat (first | rw [kv_si_n (by omega)] | rw [kFl_n (by omega)] | rw [kSet_n (by omega)] | rw [kv_si_s] | rw [kFl_s (by omega)] | rw [kSet_s])))
                    · unfold kcrashG; (repeat (first | rw [kv_si_n (by omega)] | rw [kFl_n (by omega)] | rw [kSet_n (by omega)] | rw [kv_si_s] | rw [kFl_s (by omega)] | rw [kSet_s]))
                    · unfold kcrashG; (repeat (first | rw [kv_si_n (by omega)] | rw [kFl_n (by omega)] | rw [kSet_n (by omega)] | rw [kv_si_s] | rw [kFl_s (by omega)] | rw [kSet_s]))
                    · unfold kFr2; rw [k0, k1]; unfold kcrashG; (repeat (first | rw [kv_si_n (by omega)] | rw [kFl_n (by omega)] | rw [kSet_n (by omega)] | rw [kv_si_s] | rw [kFl_s (by omega)] | rw [kSet_s])))
              · rw [if_neg (show ¬ a 0 2 < 20 by rw [hw.1]; exact h7)] at hS
                refine kv_aload_n dX11_crash_117 rfl ?_
                refine kv_ldc dX11_crash_118 kX11_83 ?_
                refine kw_Vi [_] mX11_refuse dX11_crash_120 lX11_75 wX11_refuse kC11 hu rfl (by first | rfl | assumption) rfl rfl rfl (qX11_refuse hu 4 (by decide) (by decide) _ (by decide)) (by decide) ?_
                exact kv_iret dX11_crash_123 rfl (by rw [hS]; exact kOX.no hx ho hu (by decide) rfl)
            · rw [if_pos h6] at hS
              refine kv_aload_n dX11_crash_94 rfl ?_
              refine kv_ldc dX11_crash_95 kX11_133 ?_
              refine kw_Vi [_] mX11_refuse dX11_crash_97 lX11_75 wX11_refuse kC11 hu rfl (by first | rfl | assumption) rfl rfl rfl (qX11_refuse hu 5 (by decide) (by decide) _ (by decide)) (by decide) ?_
              exact kv_iret dX11_crash_100 rfl (by rw [hS]; exact kOX.no hx ho hu (by decide) rfl)
          · have hS : kcrash a p0 p1 p2 = (-1000001, kF a 1) := if_pos (Or.inr (Or.inr (Or.inr (Or.inr (h5)))))
            refine kv_aload_n dX11_crash_46 rfl ?_
            refine kv_ldc dX11_crash_47 kX11_74 ?_
            refine kw_Vi [_] mX11_refuse dX11_crash_49 lX11_75 wX11_refuse kC11 hu rfl (by first | rfl | assumption) rfl rfl rfl (qX11_refuse hu 1 (by decide) (by decide) _ (by decide)) (by decide) ?_
            exact kv_iret dX11_crash_52 rfl (by rw [hS]; exact kOX.no hx ho hu (by decide) rfl)

set_option maxRecDepth 20000 in
set_option maxHeartbeats 4000000 in
theorem qX12_crash {w : KW} {l : Launch} {u : KMem} (hu : kWd u) {a : KA} (hm : kRM a u) (ho : kOk a) (p0 p1 p2 : Int32) : KC w l mX12_crash 2 0 0 [.ref 413, .int p0, .int p1, .int p2] u (kOM u (kcrash a p0 p1 p2).1 (kcrash a p0 p1 p2).2) := by
  have eg := hm.1
  have hg := ho.1
  have hx20 := (hg.cnt (k := 2) rfl).2
  have hc30 := (hg.cnt (k := 0) rfl).2
  have ht10 := (hg.cnt (k := 3) rfl).2
  have he40 := (hg.cnt (k := 4) rfl).2
  have hs16 := hg.cnt (k := 1) rfl
  refine KC.of (ls := [_, _, _, _, _, _]) rfl rfl (Nat.le_of_ble_eq_true rfl) ?_
  have hw := hg.cnt (k := 2) rfl
  refine kv_iload_n dX12_crash_0 rfl ?_
  refine kv_if_lt dX12_crash_1 48 (by decide) (fun h1 => ?_) (fun h1 => ?_)
  · have hS : kcrash a p0 p1 p2 = (-1000001, kF a 1) := if_pos (Or.inl h1)
    refine kv_aload_n dX12_crash_48 rfl ?_
    refine kv_ldc dX12_crash_49 kX12_83 ?_
    refine kw_Vi [_] mX12_finding dX12_crash_51 lX12_84 wX12_finding kC12 hu rfl (by first | rfl | assumption) rfl rfl rfl (qX12_finding hu 1 (by decide) (by decide) _ (by decide)) (by decide) ?_
    exact kv_iret dX12_crash_54 rfl (by rw [hS]; exact kOM.no hm hu rfl)
  · have n1 : ¬ p0 < 0 := h1
    refine kv_aload_n dX12_crash_4 rfl ?_
    refine kv_iload_n dX12_crash_5 rfl ?_
    refine kv_bipush dX12_crash_6 100 kb_100 ?_
    refine kv_idiv dX12_crash_8 (by decide) ?_
    refine kv_iconst dX12_crash_9 0 ki_0 ?_
    refine kw_Vi [_, _] mX12_is dX12_crash_10 lX12_93 wX12_is kC12 hu rfl (by first | rfl | assumption) rfl rfl rfl (gX12_is hu eg _ 0 (by omega)) (by decide) ?_
    refine kw_beq dX12_crash_13 48 (by decide) (fun h2 => ?_) (fun h2 => ?_)
    · have hS : kcrash a p0 p1 p2 = (-1000001, kF a 1) := if_pos (Or.inr (Or.inl (kIn_n h2)))
      refine kv_aload_n dX12_crash_48 rfl ?_
      refine kv_ldc dX12_crash_49 kX12_83 ?_
      refine kw_Vi [_] mX12_finding dX12_crash_51 lX12_84 wX12_finding kC12 hu rfl (by first | rfl | assumption) rfl rfl rfl (qX12_finding hu 1 (by decide) (by decide) _ (by decide)) (by decide) ?_
      exact kv_iret dX12_crash_54 rfl (by rw [hS]; exact kOM.no hm hu rfl)
    · have n2 : ¬ kOut (p0 / 100) 0 (a 0 0 - 1) := kIn_y h2
      refine kv_aload_n dX12_crash_16 rfl ?_
      refine kv_iload_n dX12_crash_17 rfl ?_
      refine kv_bipush dX12_crash_18 100 kb_100 ?_
      refine kv_irem dX12_crash_20 (by decide) ?_
      refine kv_iconst dX12_crash_21 0 ki_0 ?_
      refine kw_Vi [_, _] mX12_is dX12_crash_22 lX12_93 wX12_is kC12 hu rfl (by first | rfl | assumption) rfl rfl rfl (gX12_is hu eg _ 0 (by omega)) (by decide) ?_
      refine kw_beq dX12_crash_25 48 (by decide) (fun h3 => ?_) (fun h3 => ?_)
      · have hS : kcrash a p0 p1 p2 = (-1000001, kF a 1) := if_pos (Or.inr (Or.inr (Or.inl (kIn_n h3))))
        refine kv_aload_n dX12_crash_48 rfl ?_
        refine kv_ldc dX12_crash_49 kX12_83 ?_
        refine kw_Vi [_] mX12_finding dX12_crash_51 lX12_84 wX12_finding kC12 hu rfl (by first | rfl | assumption) rfl rfl rfl (qX12_finding hu 1 (by decide) (by decide) _ (by decide)) (by decide) ?_
        exact kv_iret dX12_crash_54 rfl (by rw [hS]; exact kOM.no hm hu rfl)
      · have n3 : ¬ kOut (p0 - p0 / 100 * 100) 0 (a 0 0 - 1) := kIn_y h3
        refine kv_iload_n dX12_crash_28 rfl ?_
        refine kv_iconst dX12_crash_29 0 ki_0 ?_
        refine kv_ldc dX12_crash_30 kX12_82 ?_
        refine kw_Si [_, _, _] mX12_within dX12_crash_32 lX12_78 wX12_within rfl rfl rfl (qX12_within hu _ _ _) (by decide) ?_
        refine kw_beq dX12_crash_35 48 (by decide) (fun h4 => ?_) (fun h4 => ?_)
        · have hS : kcrash a p0 p1 p2 = (-1000001, kF a 1) := if_pos (Or.inr (Or.inr (Or.inr (Or.inl (kIn_n h4)))))
          refine kv_aload_n dX12_crash_48 rfl ?_
          refine kv_ldc dX12_crash_49 kX12_83 ?_
          refine kw_Vi [_] mX12_finding dX12_crash_51 lX12_84 wX12_finding kC12 hu rfl (by first | rfl | assumption) rfl rfl rfl (qX12_finding hu 1 (by decide) (by decide) _ (by decide)) (by decide) ?_
          exact kv_iret dX12_crash_54 rfl (by rw [hS]; exact kOM.no hm hu rfl)
        · have n4 : ¬ kOut p1 0 99999 := kIn_y h4
          refine kv_iload_n dX12_crash_38 rfl ?_
          refine kv_iconst dX12_crash_39 0 ki_0 ?_
          refine kv_ldc dX12_crash_40 kX12_103 ?_
          refine kw_Si [_, _, _] mX12_within dX12_crash_42 lX12_78 wX12_within rfl rfl rfl (qX12_within hu _ _ _) (by decide) ?_
          refine kw_bne dX12_crash_45 55 (by decide) (fun h5 => ?_) (fun h5 => ?_)
          · have n5 : ¬ kOut p2 0 65535 := kIn_y h5
            obtain ⟨c0, hc0, e0⟩ := hg.at (k := 0) rfl n2
            obtain ⟨c1, hc1, e1⟩ := hg.at (k := 0) rfl n3
            have hS : kcrash a p0 p1 p2 = _ := if_neg (fun q => q.elim n1 (fun q => q.elim n2 (fun q => q.elim n3 (fun q => q.elim n4 n5))))
            rw [e1, e0, nI_clamp (by omega), nI_clamp (by omega)] at hS
            refine kv_aload_n dX12_crash_55 rfl ?_
            refine kv_iload_n dX12_crash_56 rfl ?_
            refine kv_bipush dX12_crash_57 100 kb_100 ?_
            refine kv_idiv dX12_crash_59 (by decide) ?_
            refine kv_iconst dX12_crash_60 0 ki_0 ?_
            rw [e0]
            refine kw_Vi [_, _] mX12_car dX12_crash_61 lX12_89 wX12_car kC12 hu rfl (by first | rfl | assumption) rfl rfl rfl (gX12_car hu eg c0 0 (by omega) (by omega)) (by decide) ?_
            refine kv_aload_n dX12_crash_64 rfl ?_
            refine kv_iload_n dX12_crash_65 rfl ?_
            refine kv_bipush dX12_crash_66 100 kb_100 ?_
            refine kv_irem dX12_crash_68 (by decide) ?_
            refine kv_iconst dX12_crash_69 0 ki_0 ?_
            rw [e1]
            refine kw_Vi [_, _] mX12_car dX12_crash_70 lX12_89 wX12_car kC12 hu rfl (by first | rfl | assumption) rfl rfl rfl (gX12_car hu eg c1 0 (by omega) (by omega)) (by decide) ?_
            refine kv_icmp_ne dX12_crash_73 83 (by decide) (fun h6 => ?_) (fun h6 => ?_)
            · rw [if_neg h6] at hS
              refine kv_aload_n dX12_crash_83 rfl ?_
              refine kw_gR dX12_crash_84 fX12_9 hu (by first | rfl | assumption) rfl rfl (by first | rfl | assumption) ?_
              refine kv_iconst dX12_crash_87 2 ki_2 ?_
              refine kw_ig dX12_crash_88 hu eg rfl (_) (show (2 : Int32) = nI 2 from rfl) (by omega) rfl ?_
              rw [hw.1]
              refine kv_istore (ls2 := [_, _, _, _, _, _]) dX12_crash_89 rfl rfl rfl rfl ?_
              refine kv_iload dX12_crash_91 rfl ?_
              refine kv_bipush dX12_crash_93 20 kb_20 ?_
              refine kv_icmp_ne dX12_crash_95 105 (by decide) (fun h7 => ?_) (fun h7 => ?_)
              · have hlt : kN (a 0) 2 < 20 := by
                  refine Nat.lt_of_le_of_ne hw.2 (fun q => h7 ?_)
                  rw [q]
                  rfl
                rw [if_pos (show a 0 2 < 20 by rw [hw.1]; exact nI_lt (b := 20) hlt (by omega))] at hS
                refine kv_sipush dX12_crash_105 328 kz_328 ?_
                refine kv_bipush dX12_crash_108 7 kb_7 ?_
                refine kv_iload dX12_crash_110 rfl ?_
                refine kv_imul dX12_crash_112 ?_
                refine kv_iadd dX12_crash_113 ?_
                rw [show (328 + 7 * nI (kN (a 0) 2) : Int32) = nI (328 + 7 * kN (a 0) 2) from kn_add (show (328 : Int32) = nI 328 from rfl) (kn_mul (show (7 : Int32) = nI 7 from rfl) rfl)]
                refine kv_istore (ls2 := [_, _, _, _, _, _]) dX12_crash_114 rfl rfl rfl rfl ?_
                refine kv_aload_n dX12_crash_116 rfl ?_
                refine kw_gR dX12_crash_117 fX12_9 hu (by first | rfl | assumption) rfl rfl (by first | rfl | assumption) ?_
                refine kv_iload dX12_crash_120 rfl ?_
                refine kv_iconst dX12_crash_122 0 ki_0 ?_
                refine kv_iadd dX12_crash_123 ?_
                refine kv_iload_n dX12_crash_124 rfl ?_
                refine kv_bipush dX12_crash_125 100 kb_100 ?_
                refine kv_idiv dX12_crash_127 (by decide) ?_
                refine kw_isg dX12_crash_128 hu eg (fun _ _ => rfl) (_) (kn_add rfl (show (0 : Int32) = nI 0 from rfl)) (by omega) (fun vw1 huw1 egw1 evw1 => ?_)
                refine kv_aload_n dX12_crash_129 rfl ?_
                refine kw_gR dX12_crash_130 fX12_9 huw1 (by first | rfl | assumption) rfl rfl (by first | rfl | assumption) ?_
                refine kv_iload dX12_crash_133 rfl ?_
                refine kv_iconst dX12_crash_135 0 ki_0 ?_
                refine kv_iadd dX12_crash_136 ?_
                refine kv_iconst dX12_crash_137 1 ki_1 ?_
                refine kv_iadd dX12_crash_138 ?_
                refine kv_iload_n dX12_crash_139 rfl ?_
                refine kv_bipush dX12_crash_140 100 kb_100 ?_
                refine kv_irem dX12_crash_142 (by decide) ?_
                refine kw_isg dX12_crash_143 huw1 egw1 evw1 (_) (kn_add (kn_add rfl (show (0 : Int32) = nI 0 from rfl)) (show (1 : Int32) = nI 1 from rfl)) (by omega) (fun vw2 huw2 egw2 evw2 => ?_)
                refine kv_aload_n dX12_crash_144 rfl ?_
                refine kw_gR dX12_crash_145 fX12_9 huw2 (by first | rfl | assumption) rfl rfl (by first | rfl | assumption) ?_
                refine kv_iload dX12_crash_148 rfl ?_
                refine kv_iconst dX12_crash_150 2 ki_2 ?_
                refine kv_iadd dX12_crash_151 ?_
                refine kv_iload_n dX12_crash_152 rfl ?_
                refine kv_bipush dX12_crash_153 100 kb_100 ?_
                refine kv_idiv dX12_crash_155 (by decide) ?_
                refine kw_isg dX12_crash_156 huw2 egw2 evw2 (_) (kn_add rfl (show (2 : Int32) = nI 2 from rfl)) (by omega) (fun vw3 huw3 egw3 evw3 => ?_)
                refine kv_aload_n dX12_crash_157 rfl ?_
                refine kw_gR dX12_crash_158 fX12_9 huw3 (by first | rfl | assumption) rfl rfl (by first | rfl | assumption) ?_
                refine kv_iload dX12_crash_161 rfl ?_
                refine kv_iconst dX12_crash_163 3 ki_3 ?_
                refine kv_iadd dX12_crash_164 ?_
                refine kv_iload_n dX12_crash_165 rfl ?_
                refine kv_bipush dX12_crash_166 100 kb_100 ?_
                refine kv_irem dX12_crash_168 (by decide) ?_
                refine kw_isg dX12_crash_169 huw3 egw3 evw3 (_) (kn_add rfl (show (3 : Int32) = nI 3 from rfl)) (by omega) (fun vw4 huw4 egw4 evw4 => ?_)
                refine kv_aload_n dX12_crash_170 rfl ?_
                refine kw_gR dX12_crash_171 fX12_9 huw4 (by first | rfl | assumption) rfl rfl (by first | rfl | assumption) ?_
                refine kv_iload dX12_crash_174 rfl ?_
                refine kv_iconst dX12_crash_176 4 ki_4 ?_
                refine kv_iadd dX12_crash_177 ?_
                refine kv_iload_n dX12_crash_178 rfl ?_
                refine kw_isg dX12_crash_179 huw4 egw4 evw4 (_) (kn_add rfl (show (4 : Int32) = nI 4 from rfl)) (by omega) (fun vw5 huw5 egw5 evw5 => ?_)
                refine kv_aload_n dX12_crash_180 rfl ?_
                refine kw_gR dX12_crash_181 fX12_9 huw5 (by first | rfl | assumption) rfl rfl (by first | rfl | assumption) ?_
                refine kv_iload dX12_crash_184 rfl ?_
                refine kv_iconst dX12_crash_186 5 ki_5 ?_
                refine kv_iadd dX12_crash_187 ?_
                refine kv_iconst dX12_crash_188 0 ki_0 ?_
                refine kw_isg dX12_crash_189 huw5 egw5 evw5 (_) (kn_add rfl (show (5 : Int32) = nI 5 from rfl)) (by omega) (fun vw6 huw6 egw6 evw6 => ?_)
                refine kv_aload_n dX12_crash_190 rfl ?_
                refine kw_gR dX12_crash_191 fX12_9 huw6 (by first | rfl | assumption) rfl rfl (by first | rfl | assumption) ?_
                refine kv_iload dX12_crash_194 rfl ?_
                refine kv_iconst dX12_crash_196 5 ki_5 ?_
                refine kv_iadd dX12_crash_197 ?_
                refine kv_iconst dX12_crash_198 1 ki_1 ?_
                refine kv_iadd dX12_crash_199 ?_
                refine kv_iconst dX12_crash_200 0 ki_0 ?_
                refine kw_isg dX12_crash_201 huw6 egw6 evw6 (_) (kn_add (kn_add rfl (show (5 : Int32) = nI 5 from rfl)) (show (1 : Int32) = nI 1 from rfl)) (by omega) (fun vw7 huw7 egw7 evw7 => ?_)
                refine kv_aload_n dX12_crash_202 rfl ?_
                refine kw_gR dX12_crash_203 fX12_9 huw7 (by first | rfl | assumption) rfl rfl (by first | rfl | assumption) ?_
                refine kv_iconst dX12_crash_206 2 ki_2 ?_
                refine kv_dup2 dX12_crash_207 rfl rfl ?_
                refine kw_ig dX12_crash_208 huw7 egw7 rfl (_) (show (2 : Int32) = nI 2 from rfl) (by omega) rfl ?_
                rw [kSet_n (by omega), kSet_n (by omega), kSet_n (by omega), kSet_n (by omega), kSet_n (by omega), kSet_n (by omega), kSet_n (by omega)]
                refine kv_iconst dX12_crash_209 1 ki_1 ?_
                refine kv_iadd dX12_crash_210 ?_
                refine kw_isg dX12_crash_211 huw7 egw7 evw7 (_) (show (2 : Int32) = nI 2 from rfl) (by omega) (fun vw8 huw8 egw8 evw8 => ?_)
                refine kv_iload dX12_crash_212 rfl ?_
                exact kv_iret dX12_crash_214 rfl (by rw [hS]; exact ⟨rfl, huw8, fun b hb => evw8 b (by omega), hm.now egw8 (fun b hb => evw8 b (by omega)) (evw8 413 (by omega))⟩)
              · rw [if_neg (show ¬ a 0 2 < 20 by rw [hw.1, h7]; decide)] at hS
                refine kv_aload_n dX12_crash_98 rfl ?_
                refine kv_ldc dX12_crash_99 kX12_88 ?_
                refine kw_Vi [_] mX12_finding dX12_crash_101 lX12_84 wX12_finding kC12 hu rfl (by first | rfl | assumption) rfl rfl rfl (qX12_finding hu 4 (by decide) (by decide) _ (by decide)) (by decide) ?_
                exact kv_iret dX12_crash_104 rfl (by rw [hS]; exact kOM.no hm hu rfl)
            · rw [if_pos h6] at hS
              refine kv_aload_n dX12_crash_76 rfl ?_
              refine kv_ldc dX12_crash_77 kX12_104 ?_
              refine kw_Vi [_] mX12_finding dX12_crash_79 lX12_84 wX12_finding kC12 hu rfl (by first | rfl | assumption) rfl rfl rfl (qX12_finding hu 5 (by decide) (by decide) _ (by decide)) (by decide) ?_
              exact kv_iret dX12_crash_82 rfl (by rw [hS]; exact kOM.no hm hu rfl)
          · have hS : kcrash a p0 p1 p2 = (-1000001, kF a 1) := if_pos (Or.inr (Or.inr (Or.inr (Or.inr ((kIn_n h5))))))
            refine kv_aload_n dX12_crash_48 rfl ?_
            refine kv_ldc dX12_crash_49 kX12_83 ?_
            refine kw_Vi [_] mX12_finding dX12_crash_51 lX12_84 wX12_finding kC12 hu rfl (by first | rfl | assumption) rfl rfl rfl (qX12_finding hu 1 (by decide) (by decide) _ (by decide)) (by decide) ?_
            exact kv_iret dX12_crash_54 rfl (by rw [hS]; exact kOM.no hm hu rfl)

theorem kcrash_ok {a : KA} (ho : kOk a) (p0 p1 p2 : Int32) : kOk (kcrash a p0 p1 p2).2 := by
  unfold kcrash
  have hw := ho.1.cnt (k := 2) rfl
  have hw0 := ho.1.cnt (k := 0) rfl
  split
  · exact ho.fnd 1
  · rename_i h
    split
    · exact ho.fnd 5
    · split
      · rename_i h2
        have hlt : kN (a 0) 2 < 20 := by
          rw [hw.1] at h2
          exact (nI_ltI (b := 20) (by omega) (by omega)).mp h2
        obtain ⟨c0, hc0, e0⟩ := ho.1.at (k := 0) rfl (fun q => h (Or.inr (Or.inl q)))
        obtain ⟨c1, hc1, e1⟩ := ho.1.at (k := 0) rfl (fun q => h (Or.inr (Or.inr (Or.inl q))))
        obtain ⟨j, hj, rfl⟩ := kOut.bd (n := 99999) (by omega) (fun q => h (Or.inr (Or.inr (Or.inr (Or.inl q)))))
        have N0 : kN (kcrashG (a 0) p0 (nI j) p2) 0 = kN (a 0) 0 := kc_N (by unfold kcrashG; repeat rw [kSet_n (by omega)])
        refine ho.now (ho.1.addCrash hlt (fun i hi => by unfold kcrashG; repeat rw [kSet_n (by omega)]) (kUp_suc (by unfold kcrashG; rw [kSet_s]; exact congrArg (· + 1) hw.1) hlt) (kN_suc (by unfold kcrashG; rw [kSet_s]; exact congrArg (· + 1) hw.1) (by omega)) ⟨fun s hs => ?_, ?_, ?_, ?_, fun s hs => ⟨0, Nat.two_pow_pos _, ?_⟩⟩)
        · rw [N0]
          rcases (show s = 0 ∨ s = 1 by omega) with rfl | rfl
          · exact ⟨c0, hc0, by unfold kcrashG; (repeat (first | rw [kSet_n (by omega)] | rw [kSet_s])); exact e0⟩
          · exact ⟨c1, hc1, by unfold kcrashG; (repeat (first | rw [kSet_n (by omega)] | rw [kSet_s])); exact e1⟩
        · unfold kcrashG; (repeat (first | rw [kSet_n (by omega)] | rw [kSet_s])); exact kUp_div (d := 100) (by omega) (by omega) (by omega) (by omega)
        · unfold kcrashG; (repeat (first | rw [kSet_n (by omega)] | rw [kSet_s])); exact kUp_rem (d := 100) (by omega) (by omega) (by omega) (by omega)
        · unfold kcrashG; (repeat (first | rw [kSet_n (by omega)] | rw [kSet_s])); exact kOut.bd (n := 65535) (by omega) (fun q => h (Or.inr (Or.inr (Or.inr (Or.inr q)))))
        · rcases (show s = 0 ∨ s = 1 by omega) with rfl | rfl <;> (unfold kcrashG; (repeat (first | rw [kSet_n (by omega)] | rw [kSet_s])); rfl)
      · exact ho.fnd 4
