/-! THE SAME CONTRACTS WITH FINER SETS: the Judge's cells alone, the model's pile alone -/
def kSJ (a k : Nat) : Prop := (385 ≤ a ∧ a ≤ 387) ∨ (a = 386 ∧ k = 0)
def kSP (a k : Nat) : Prop := (420 ≤ a ∧ a ≤ 420) ∨ (a = 420 ∧ k = 0)
theorem kSJ_X {u v : KMem} (h : kEq kSJ u v) : kEq kSX u v := h.wk (fun a k q => Or.inl (by unfold kSJ at q; omega))
theorem kSP_M {u v : KMem} (h : kEq kSP u v) : kEq kSM u v := h.wk (fun a k q => Or.inl (by unfold kSP at q; omega))
theorem kS7_J {u v : KMem} (h : kEq kS7 u v) : kEq kSJ u v := h.wk (fun a k q => by unfold kS7 at q; unfold kSJ; omega)
theorem kS5_J {u v : KMem} (h : kEq kS5 u v) : kEq kSJ u v := h.wk (fun a k q => by unfold kS5 at q; unfold kSJ; omega)
theorem kS6_J {u v : KMem} (h : kEq kS6 u v) : kEq kSJ u v := h.wk (fun a k q => by unfold kS6 at q; unfold kSJ; omega)
theorem kRS.eqJ {g : Nat → Int32} {u v : KMem} (h : kRS 1 g u) (hg : kGI g) (he : kEq kSJ u v) : kRS 1 g v := h.of (fun a k h1 h2 => he.2.2.1 a k (by unfold kSJ; omega)) hg
theorem kSP_now (k : Nat) : ¬ kSP 414 k := by unfold kSP; omega
set_option maxRecDepth 20000 in
set_option maxHeartbeats 4000000 in
theorem rX12_given {w : KW} {l : Launch} {u : KMem} (hu : kWd u) (hg : kGI (u.2.1 414)) (t : Nat) (ht : t < kN (u.2.1 414) 3) (a b c d : Int32) : KC w l mX12_given 2 0 0 [.ref 413, .int (nI t), .int a, .int b, .int c, .int d] u (kp kSP u (some (.int (kGiven (u.2.1 414) t a b c d)))) := by
  have ht10 := (hg.cnt (k := 3) rfl).2
  obtain ⟨-, -, hn, hD⟩ := hg.2.2.2.2.2.2.1 t ht
  have hn0 : (u.2.1 414) (468 + 66 * t + 2) = nI (kN (u.2.1 414) (468 + 66 * t + 2)) ∧ kN (u.2.1 414) (468 + 66 * t + 2) ≤ 60 := hn.n (by omega)
  have hn60 := hn0.2
  refine KC.of (ls := [_, _, _, _, _, _, _, _, _, _]) rfl rfl (Nat.le_of_ble_eq_true rfl) ?_
  refine kv_sipush dX12_given_0 468 kz_468 ?_
  refine kv_bipush dX12_given_3 66 kb_66 ?_
  refine kv_iload_n dX12_given_5 rfl ?_
  refine kv_imul dX12_given_6 ?_
  refine kv_iadd dX12_given_7 ?_
  refine kv_iconst dX12_given_8 3 ki_3 ?_
  refine kv_iadd dX12_given_9 ?_
  rw [show (468 + 66 * nI t + 3 : Int32) = nI (468 + 66 * t + 3) from kn_add (kn_add rfl (kn_mul rfl rfl)) rfl]
  refine kv_istore (ls2 := [_, _, _, _, _, _, _, _, _, _]) dX12_given_10 rfl rfl rfl rfl ?_
  refine kv_iconst dX12_given_12 0 ki_0 ?_
  refine kv_istore (ls2 := [_, _, _, _, _, _, _, _, _, _]) dX12_given_13 rfl rfl rfl rfl ?_
  refine kv_iload dX12_given_15 rfl ?_
  refine kv_istore (ls2 := [_, _, _, _, _, _, _, _, _, _]) dX12_given_17 rfl rfl rfl rfl ?_
  refine KV.loc (ls2 := [some (.ref 413), some (.int (nI t)), some (.int a), some (.int b), some (.int c), some (.int d), some (.int (nI (468 + 66 * t + 3))), some (.int (nI 0)), some (.int (nI (468 + 66 * t + 3 + 0))), none]) ?_ (ksS rfl (ksS rfl (ksS rfl (ksS rfl (ksS rfl (ksS rfl (ksS rfl (ksS rfl (ksS rfl (ks0 ksN))))))))))
  refine kn_loop (P := fun i => ∀ (v : KMem) (L : List Int32), kGv (fun k => u.2.1 414 (468 + 66 * t + 3 + k)) a b c d i = L → kEq kSP u v → kPi 420 v L → KV w l mX12_given 2 0 0 19 [some (.ref 413), some (.int (nI t)), some (.int a), some (.int b), some (.int c), some (.int d), some (.int (nI (468 + 66 * t + 3))), some (.int (nI L.length)), some (.int (nI (468 + 66 * t + 3 + i))), none] [] v (kp kSP u (some (.int (kGiven (u.2.1 414) t a b c d))))) (kN (u.2.1 414) (468 + 66 * t + 2)) ?_ (fun i hi ih => ?_) u [] rfl kEq.rf trivial
  · intro v L hL E hP
    have hu2 := E.wd hu
    have g2 : v.2.1 414 = u.2.1 414 := E.row kSP_now
    refine kv_iload dX12_given_19 rfl ?_
    refine kv_iload dX12_given_21 rfl ?_
    refine kv_aload_n dX12_given_23 rfl ?_
    refine kw_gR dX12_given_24 fX12_9 hu2 (by first | rfl | assumption) rfl rfl (by first | rfl | assumption) ?_
    refine kv_iload dX12_given_27 rfl ?_
    refine kv_iconst dX12_given_29 1 ki_1 ?_
    refine kv_isub dX12_given_30 ?_
    refine kw_il dX12_given_31 hu2 (by first | rfl | assumption) (468 + 66 * t + 2) (by rw [show (1 : Int32) = nI 1 from rfl, pk_sub (by omega)]; rfl) (by omega) rfl ?_
    refine kv_iadd dX12_given_32 ?_
    rw [g2, hn0.1, nI_add]
    refine kv_icmp_ge dX12_given_33 224 (by decide) (fun h1 => ?_) (fun h1 => ?_)
    · refine kv_aload_n dX12_given_224 rfl ?_
      refine kw_gR dX12_given_225 fX12_37 hu2 (by first | rfl | assumption) rfl rfl (by first | rfl | assumption) ?_
      refine kv_iconst dX12_given_228 0 ki_0 ?_
      refine kw_il dX12_given_229 hu2 (by first | rfl | assumption) (0) rfl (by decide) rfl ?_
      exact kv_iret dX12_given_230 rfl ⟨kGv_end hD hL hP, E⟩
    · exact (kn_nge h1).elim
  · intro v L hL E hP
    have hu2 := E.wd hu
    have g2 : v.2.1 414 = u.2.1 414 := E.row kSP_now
    obtain ⟨hl, hone, htwo⟩ := kGv_at (a := a) (b := b) (c := c) (d := d) hD hi
    rw [hL] at hl hone htwo
    refine kv_iload dX12_given_19 rfl ?_
    refine kv_iload dX12_given_21 rfl ?_
    refine kv_aload_n dX12_given_23 rfl ?_
    refine kw_gR dX12_given_24 fX12_9 hu2 (by first | rfl | assumption) rfl rfl (by first | rfl | assumption) ?_
    refine kv_iload dX12_given_27 rfl ?_
    refine kv_iconst dX12_given_29 1 ki_1 ?_
    refine kv_isub dX12_given_30 ?_
    refine kw_il dX12_given_31 hu2 (by first | rfl | assumption) (468 + 66 * t + 2) (by rw [show (1 : Int32) = nI 1 from rfl, pk_sub (by omega)]; rfl) (by omega) rfl ?_
    refine kv_iadd dX12_given_32 ?_
    rw [g2, hn0.1, nI_add]
    refine kv_icmp_ge dX12_given_33 224 (by decide) (fun h2 => ?_) (fun h2 => ?_)
    · exact absurd h2 (kn_ge (n := 468 + 66 * t + 3 + kN (u.2.1 414) (468 + 66 * t + 2)) (by omega) (by omega))
    · refine kv_aload_n dX12_given_36 rfl ?_
      refine kw_gR dX12_given_37 fX12_9 hu2 (by first | rfl | assumption) rfl rfl (by first | rfl | assumption) ?_
      refine kv_iload dX12_given_40 rfl ?_
      refine kw_il dX12_given_42 hu2 (by first | rfl | assumption) (468 + 66 * t + 3 + i) rfl (by omega) rfl ?_
      rw [g2]
      refine kv_istore (ls2 := [_, _, _, _, _, _, _, _, _, _]) dX12_given_43 rfl rfl rfl rfl ?_
      refine kv_iload dX12_given_45 rfl ?_
      refine kv_sipush dX12_given_47 20000 kz_20000 ?_
      refine kv_icmp_ge dX12_given_50 118 (by decide) (fun h3 => ?_) (fun h3 => ?_)
      · refine kv_iload dX12_given_118 rfl ?_
        refine kv_sipush dX12_given_120 20011 kz_20011 ?_
        refine kv_icmp_ne dX12_given_123 155 (by decide) (fun h4 => ?_) (fun h4 => ?_)
        · refine kv_iload dX12_given_155 rfl ?_
          refine kv_sipush dX12_given_157 20012 kz_20012 ?_
          refine kv_icmp_ne dX12_given_160 185 (by decide) (fun h5 => ?_) (fun h5 => ?_)
          · obtain ⟨y, z, t2, rfl⟩ := htwo (by assumption) (by assumption) (by assumption)
            have hy : v.2.1 420 (t2.length + 1) = y := hP.1
            have hz : v.2.1 420 t2.length = z := hP.2.1
            refine kv_iinc (ls2 := [_, _, _, _, _, _, _, _, _, _]) dX12_given_185 (nI (t2.length + 1)) rfl (pk_m1 (t2.length + 1)) rfl rfl rfl rfl ?_
            refine kv_aload_n dX12_given_188 rfl ?_
            refine kw_gR dX12_given_189 fX12_37 hu2 (by first | rfl | assumption) rfl rfl (by first | rfl | assumption) ?_
            refine kv_iload dX12_given_192 rfl ?_
            refine kv_iconst dX12_given_194 1 ki_1 ?_
            refine kv_isub dX12_given_195 ?_
            refine kv_iload dX12_given_196 rfl ?_
            refine kv_aload_n dX12_given_198 rfl ?_
            refine kw_gR dX12_given_199 fX12_37 hu2 (by first | rfl | assumption) rfl rfl (by first | rfl | assumption) ?_
            refine kv_iload dX12_given_202 rfl ?_
            refine kv_iconst dX12_given_204 1 ki_1 ?_
            refine kv_isub dX12_given_205 ?_
            refine kw_il dX12_given_206 hu2 (by first | rfl | assumption) (t2.length) (nI_pred t2.length) (by simp at hl; omega) rfl ?_
            rw [hz]
            refine kv_aload_n dX12_given_207 rfl ?_
            refine kw_gR dX12_given_208 fX12_37 hu2 (by first | rfl | assumption) rfl rfl (by first | rfl | assumption) ?_
            refine kv_iload dX12_given_211 rfl ?_
            refine kw_il dX12_given_213 hu2 (by first | rfl | assumption) (t2.length + 1) rfl (by simp at hl; omega) rfl ?_
            rw [hy]
            refine kw_Si [_, _, _] mX12_done dX12_given_214 lX12_288 wX12_done rfl rfl rfl (qX12_done hu2 _ _ _) (by decide) ?_
            refine kw_is dX12_given_217 hu2 (by first | rfl | assumption) (t2.length) (nI_pred t2.length) (by simp at hl; omega) rfl ?_
            refine kv_iinc (ls2 := [_, _, _, _, _, _, _, _, _, _]) dX12_given_218 (nI (468 + 66 * t + 3 + (i + 1))) rfl (kv_inc1 _) rfl rfl rfl rfl ?_
            refine kv_goto dX12_given_221 19 (by decide) ?_
            first | exact KV.loc (ih _ _ (by rw [kGv, hL]; unfold kGs; simp [*]) (E.si (Or.inl (by omega))) hP.push) (ksS rfl (ksS rfl (ksS rfl (ksS rfl (ksS rfl (ksS rfl (ksS rfl (ksS rfl (ksS rfl (ks0 ksN)))))))))) | exact KV.loc (ih _ _ (by rw [kGv, hL]; unfold kGs; simp [*]) (E.si (Or.inl (by omega))) (kPi.push hP.2)) (ksS rfl (ksS rfl (ksS rfl (ksS rfl (ksS rfl (ksS rfl (ksS rfl (ksS rfl (ksS rfl (ks0 ksN)))))))))) | exact KV.loc (ih _ _ (by rw [kGv, hL]; unfold kGs; simp [*]) (E.si (Or.inl (by omega))) (kPi.push hP.2.2)) (ksS rfl (ksS rfl (ksS rfl (ksS rfl (ksS rfl (ksS rfl (ksS rfl (ksS rfl (ksS rfl (ks0 ksN))))))))))
          · obtain ⟨y, t2, rfl⟩ := hone (Or.inr (by assumption))
            have hy : v.2.1 420 t2.length = y := hP.1
            refine kv_aload_n dX12_given_163 rfl ?_
            refine kw_gR dX12_given_164 fX12_37 hu2 (by first | rfl | assumption) rfl rfl (by first | rfl | assumption) ?_
            refine kv_iload dX12_given_167 rfl ?_
            refine kv_iconst dX12_given_169 1 ki_1 ?_
            refine kv_isub dX12_given_170 ?_
            refine kv_aload_n dX12_given_171 rfl ?_
            refine kw_gR dX12_given_172 fX12_37 hu2 (by first | rfl | assumption) rfl rfl (by first | rfl | assumption) ?_
            refine kv_iload dX12_given_175 rfl ?_
            refine kv_iconst dX12_given_177 1 ki_1 ?_
            refine kv_isub dX12_given_178 ?_
            refine kw_il dX12_given_179 hu2 (by first | rfl | assumption) (t2.length) (nI_pred t2.length) (by simp at hl; omega) rfl ?_
            rw [hy]
            refine kv_ineg dX12_given_180 ?_
            refine kw_is dX12_given_181 hu2 (by first | rfl | assumption) (t2.length) (nI_pred t2.length) (by simp at hl; omega) rfl ?_
            refine kv_goto dX12_given_182 218 (by decide) ?_
            refine kv_iinc (ls2 := [_, _, _, _, _, _, _, _, _, _]) dX12_given_218 (nI (468 + 66 * t + 3 + (i + 1))) rfl (kv_inc1 _) rfl rfl rfl rfl ?_
            refine kv_goto dX12_given_221 19 (by decide) ?_
            first | exact KV.loc (ih _ _ (by rw [kGv, hL]; unfold kGs; simp [*]) (E.si (Or.inl (by omega))) hP.push) (ksS rfl (ksS rfl (ksS rfl (ksS rfl (ksS rfl (ksS rfl (ksS rfl (ksS rfl (ksS rfl (ks0 ksN)))))))))) | exact KV.loc (ih _ _ (by rw [kGv, hL]; unfold kGs; simp [*]) (E.si (Or.inl (by omega))) (kPi.push hP.2)) (ksS rfl (ksS rfl (ksS rfl (ksS rfl (ksS rfl (ksS rfl (ksS rfl (ksS rfl (ksS rfl (ks0 ksN)))))))))) | exact KV.loc (ih _ _ (by rw [kGv, hL]; unfold kGs; simp [*]) (E.si (Or.inl (by omega))) (kPi.push hP.2.2)) (ksS rfl (ksS rfl (ksS rfl (ksS rfl (ksS rfl (ksS rfl (ksS rfl (ksS rfl (ksS rfl (ks0 ksN))))))))))
        · obtain ⟨y, t2, rfl⟩ := hone (Or.inl (by assumption))
          have hy : v.2.1 420 t2.length = y := hP.1
          refine kv_aload_n dX12_given_126 rfl ?_
          refine kw_gR dX12_given_127 fX12_37 hu2 (by first | rfl | assumption) rfl rfl (by first | rfl | assumption) ?_
          refine kv_iload dX12_given_130 rfl ?_
          refine kv_iconst dX12_given_132 1 ki_1 ?_
          refine kv_isub dX12_given_133 ?_
          refine kv_aload_n dX12_given_134 rfl ?_
          refine kw_gR dX12_given_135 fX12_37 hu2 (by first | rfl | assumption) rfl rfl (by first | rfl | assumption) ?_
          refine kv_iload dX12_given_138 rfl ?_
          refine kv_iconst dX12_given_140 1 ki_1 ?_
          refine kv_isub dX12_given_141 ?_
          refine kw_il dX12_given_142 hu2 (by first | rfl | assumption) (t2.length) (nI_pred t2.length) (by simp at hl; omega) rfl ?_
          rw [hy]
          refine kv_if_ne dX12_given_143 150 (by decide) (fun h6 => ?_) (fun h6 => ?_)
          · refine kv_iconst dX12_given_150 0 ki_0 ?_
            refine kw_is dX12_given_151 hu2 (by first | rfl | assumption) (t2.length) (nI_pred t2.length) (by simp at hl; omega) rfl ?_
            refine kv_goto dX12_given_152 218 (by decide) ?_
            refine kv_iinc (ls2 := [_, _, _, _, _, _, _, _, _, _]) dX12_given_218 (nI (468 + 66 * t + 3 + (i + 1))) rfl (kv_inc1 _) rfl rfl rfl rfl ?_
            refine kv_goto dX12_given_221 19 (by decide) ?_
            first | exact KV.loc (ih _ _ (by rw [kGv, hL]; unfold kGs; simp [*]) (E.si (Or.inl (by omega))) hP.push) (ksS rfl (ksS rfl (ksS rfl (ksS rfl (ksS rfl (ksS rfl (ksS rfl (ksS rfl (ksS rfl (ks0 ksN)))))))))) | exact KV.loc (ih _ _ (by rw [kGv, hL]; unfold kGs; simp [*]) (E.si (Or.inl (by omega))) (kPi.push hP.2)) (ksS rfl (ksS rfl (ksS rfl (ksS rfl (ksS rfl (ksS rfl (ksS rfl (ksS rfl (ksS rfl (ks0 ksN)))))))))) | exact KV.loc (ih _ _ (by rw [kGv, hL]; unfold kGs; simp [*]) (E.si (Or.inl (by omega))) (kPi.push hP.2.2)) (ksS rfl (ksS rfl (ksS rfl (ksS rfl (ksS rfl (ksS rfl (ksS rfl (ksS rfl (ksS rfl (ks0 ksN))))))))))
          · refine kv_iconst dX12_given_146 1 ki_1 ?_
            refine kv_goto dX12_given_147 151 (by decide) ?_
            refine kw_is dX12_given_151 hu2 (by first | rfl | assumption) (t2.length) (nI_pred t2.length) (by simp at hl; omega) rfl ?_
            refine kv_goto dX12_given_152 218 (by decide) ?_
            refine kv_iinc (ls2 := [_, _, _, _, _, _, _, _, _, _]) dX12_given_218 (nI (468 + 66 * t + 3 + (i + 1))) rfl (kv_inc1 _) rfl rfl rfl rfl ?_
            refine kv_goto dX12_given_221 19 (by decide) ?_
            first | exact KV.loc (ih _ _ (by rw [kGv, hL]; unfold kGs; simp [*]) (E.si (Or.inl (by omega))) hP.push) (ksS rfl (ksS rfl (ksS rfl (ksS rfl (ksS rfl (ksS rfl (ksS rfl (ksS rfl (ksS rfl (ks0 ksN)))))))))) | exact KV.loc (ih _ _ (by rw [kGv, hL]; unfold kGs; simp [*]) (E.si (Or.inl (by omega))) (kPi.push hP.2)) (ksS rfl (ksS rfl (ksS rfl (ksS rfl (ksS rfl (ksS rfl (ksS rfl (ksS rfl (ksS rfl (ks0 ksN)))))))))) | exact KV.loc (ih _ _ (by rw [kGv, hL]; unfold kGs; simp [*]) (E.si (Or.inl (by omega))) (kPi.push hP.2.2)) (ksS rfl (ksS rfl (ksS rfl (ksS rfl (ksS rfl (ksS rfl (ksS rfl (ksS rfl (ksS rfl (ks0 ksN))))))))))
      · refine kv_aload_n dX12_given_53 rfl ?_
        refine kw_gR dX12_given_54 fX12_37 hu2 (by first | rfl | assumption) rfl rfl (by first | rfl | assumption) ?_
        refine kv_iload dX12_given_57 rfl ?_
        refine kv_iload dX12_given_59 rfl ?_
        refine kv_sipush dX12_given_61 10000 kz_10000 ?_
        refine kv_icmp_ge dX12_given_64 72 (by decide) (fun h7 => ?_) (fun h7 => ?_)
        · refine kv_iload dX12_given_72 rfl ?_
          refine kv_sipush dX12_given_74 10000 kz_10000 ?_
          refine kv_icmp_ne dX12_given_77 84 (by decide) (fun h8 => ?_) (fun h8 => ?_)
          · refine kv_iload dX12_given_84 rfl ?_
            refine kv_sipush dX12_given_86 10001 kz_10001 ?_
            refine kv_icmp_ne dX12_given_89 96 (by decide) (fun h9 => ?_) (fun h9 => ?_)
            · refine kv_iload dX12_given_96 rfl ?_
              refine kv_sipush dX12_given_98 10002 kz_10002 ?_
              refine kv_icmp_ne dX12_given_101 109 (by decide) (fun h10 => ?_) (fun h10 => ?_)
              · refine kv_iload dX12_given_109 rfl ?_
                refine kw_is dX12_given_111 hu2 (by first | rfl | assumption) (L.length) rfl (by omega) rfl ?_
                refine kv_iinc (ls2 := [_, _, _, _, _, _, _, _, _, _]) dX12_given_112 (nI (L.length + 1)) rfl (kv_inc1 _) rfl rfl rfl rfl ?_
                refine kv_goto dX12_given_115 218 (by decide) ?_
                refine kv_iinc (ls2 := [_, _, _, _, _, _, _, _, _, _]) dX12_given_218 (nI (468 + 66 * t + 3 + (i + 1))) rfl (kv_inc1 _) rfl rfl rfl rfl ?_
                refine kv_goto dX12_given_221 19 (by decide) ?_
                first | exact KV.loc (ih _ _ (by rw [kGv, hL]; unfold kGs; simp [*]) (E.si (Or.inl (by omega))) hP.push) (ksS rfl (ksS rfl (ksS rfl (ksS rfl (ksS rfl (ksS rfl (ksS rfl (ksS rfl (ksS rfl (ks0 ksN)))))))))) | exact KV.loc (ih _ _ (by rw [kGv, hL]; unfold kGs; simp [*]) (E.si (Or.inl (by omega))) (kPi.push hP.2)) (ksS rfl (ksS rfl (ksS rfl (ksS rfl (ksS rfl (ksS rfl (ksS rfl (ksS rfl (ksS rfl (ks0 ksN)))))))))) | exact KV.loc (ih _ _ (by rw [kGv, hL]; unfold kGs; simp [*]) (E.si (Or.inl (by omega))) (kPi.push hP.2.2)) (ksS rfl (ksS rfl (ksS rfl (ksS rfl (ksS rfl (ksS rfl (ksS rfl (ksS rfl (ksS rfl (ks0 ksN))))))))))
              · refine kv_iload dX12_given_104 rfl ?_
                refine kv_goto dX12_given_106 111 (by decide) ?_
                refine kw_is dX12_given_111 hu2 (by first | rfl | assumption) (L.length) rfl (by omega) rfl ?_
                refine kv_iinc (ls2 := [_, _, _, _, _, _, _, _, _, _]) dX12_given_112 (nI (L.length + 1)) rfl (kv_inc1 _) rfl rfl rfl rfl ?_
                refine kv_goto dX12_given_115 218 (by decide) ?_
                refine kv_iinc (ls2 := [_, _, _, _, _, _, _, _, _, _]) dX12_given_218 (nI (468 + 66 * t + 3 + (i + 1))) rfl (kv_inc1 _) rfl rfl rfl rfl ?_
                refine kv_goto dX12_given_221 19 (by decide) ?_
                first | exact KV.loc (ih _ _ (by rw [kGv, hL]; unfold kGs; simp [*]) (E.si (Or.inl (by omega))) hP.push) (ksS rfl (ksS rfl (ksS rfl (ksS rfl (ksS rfl (ksS rfl (ksS rfl (ksS rfl (ksS rfl (ks0 ksN)))))))))) | exact KV.loc (ih _ _ (by rw [kGv, hL]; unfold kGs; simp [*]) (E.si (Or.inl (by omega))) (kPi.push hP.2)) (ksS rfl (ksS rfl (ksS rfl (ksS rfl (ksS rfl (ksS rfl (ksS rfl (ksS rfl (ksS rfl (ks0 ksN)))))))))) | exact KV.loc (ih _ _ (by rw [kGv, hL]; unfold kGs; simp [*]) (E.si (Or.inl (by omega))) (kPi.push hP.2.2)) (ksS rfl (ksS rfl (ksS rfl (ksS rfl (ksS rfl (ksS rfl (ksS rfl (ksS rfl (ksS rfl (ks0 ksN))))))))))
            · refine kv_iload_n dX12_given_92 rfl ?_
              refine kv_goto dX12_given_93 111 (by decide) ?_
              refine kw_is dX12_given_111 hu2 (by first | rfl | assumption) (L.length) rfl (by omega) rfl ?_
              refine kv_iinc (ls2 := [_, _, _, _, _, _, _, _, _, _]) dX12_given_112 (nI (L.length + 1)) rfl (kv_inc1 _) rfl rfl rfl rfl ?_
              refine kv_goto dX12_given_115 218 (by decide) ?_
              refine kv_iinc (ls2 := [_, _, _, _, _, _, _, _, _, _]) dX12_given_218 (nI (468 + 66 * t + 3 + (i + 1))) rfl (kv_inc1 _) rfl rfl rfl rfl ?_
              refine kv_goto dX12_given_221 19 (by decide) ?_
              first | exact KV.loc (ih _ _ (by rw [kGv, hL]; unfold kGs; simp [*]) (E.si (Or.inl (by omega))) hP.push) (ksS rfl (ksS rfl (ksS rfl (ksS rfl (ksS rfl (ksS rfl (ksS rfl (ksS rfl (ksS rfl (ks0 ksN)))))))))) | exact KV.loc (ih _ _ (by rw [kGv, hL]; unfold kGs; simp [*]) (E.si (Or.inl (by omega))) (kPi.push hP.2)) (ksS rfl (ksS rfl (ksS rfl (ksS rfl (ksS rfl (ksS rfl (ksS rfl (ksS rfl (ksS rfl (ks0 ksN)))))))))) | exact KV.loc (ih _ _ (by rw [kGv, hL]; unfold kGs; simp [*]) (E.si (Or.inl (by omega))) (kPi.push hP.2.2)) (ksS rfl (ksS rfl (ksS rfl (ksS rfl (ksS rfl (ksS rfl (ksS rfl (ksS rfl (ksS rfl (ks0 ksN))))))))))
          · refine kv_iload_n dX12_given_80 rfl ?_
            refine kv_goto dX12_given_81 111 (by decide) ?_
            refine kw_is dX12_given_111 hu2 (by first | rfl | assumption) (L.length) rfl (by omega) rfl ?_
            refine kv_iinc (ls2 := [_, _, _, _, _, _, _, _, _, _]) dX12_given_112 (nI (L.length + 1)) rfl (kv_inc1 _) rfl rfl rfl rfl ?_
            refine kv_goto dX12_given_115 218 (by decide) ?_
            refine kv_iinc (ls2 := [_, _, _, _, _, _, _, _, _, _]) dX12_given_218 (nI (468 + 66 * t + 3 + (i + 1))) rfl (kv_inc1 _) rfl rfl rfl rfl ?_
            refine kv_goto dX12_given_221 19 (by decide) ?_
            first | exact KV.loc (ih _ _ (by rw [kGv, hL]; unfold kGs; simp [*]) (E.si (Or.inl (by omega))) hP.push) (ksS rfl (ksS rfl (ksS rfl (ksS rfl (ksS rfl (ksS rfl (ksS rfl (ksS rfl (ksS rfl (ks0 ksN)))))))))) | exact KV.loc (ih _ _ (by rw [kGv, hL]; unfold kGs; simp [*]) (E.si (Or.inl (by omega))) (kPi.push hP.2)) (ksS rfl (ksS rfl (ksS rfl (ksS rfl (ksS rfl (ksS rfl (ksS rfl (ksS rfl (ksS rfl (ks0 ksN)))))))))) | exact KV.loc (ih _ _ (by rw [kGv, hL]; unfold kGs; simp [*]) (E.si (Or.inl (by omega))) (kPi.push hP.2.2)) (ksS rfl (ksS rfl (ksS rfl (ksS rfl (ksS rfl (ksS rfl (ksS rfl (ksS rfl (ksS rfl (ks0 ksN))))))))))
        · refine kv_iload dX12_given_67 rfl ?_
          refine kv_goto dX12_given_69 111 (by decide) ?_
          refine kw_is dX12_given_111 hu2 (by first | rfl | assumption) (L.length) rfl (by omega) rfl ?_
          refine kv_iinc (ls2 := [_, _, _, _, _, _, _, _, _, _]) dX12_given_112 (nI (L.length + 1)) rfl (kv_inc1 _) rfl rfl rfl rfl ?_
          refine kv_goto dX12_given_115 218 (by decide) ?_
          refine kv_iinc (ls2 := [_, _, _, _, _, _, _, _, _, _]) dX12_given_218 (nI (468 + 66 * t + 3 + (i + 1))) rfl (kv_inc1 _) rfl rfl rfl rfl ?_
          refine kv_goto dX12_given_221 19 (by decide) ?_
          first | exact KV.loc (ih _ _ (by rw [kGv, hL]; unfold kGs; simp [*]) (E.si (Or.inl (by omega))) hP.push) (ksS rfl (ksS rfl (ksS rfl (ksS rfl (ksS rfl (ksS rfl (ksS rfl (ksS rfl (ksS rfl (ks0 ksN)))))))))) | exact KV.loc (ih _ _ (by rw [kGv, hL]; unfold kGs; simp [*]) (E.si (Or.inl (by omega))) (kPi.push hP.2)) (ksS rfl (ksS rfl (ksS rfl (ksS rfl (ksS rfl (ksS rfl (ksS rfl (ksS rfl (ksS rfl (ks0 ksN)))))))))) | exact KV.loc (ih _ _ (by rw [kGv, hL]; unfold kGs; simp [*]) (E.si (Or.inl (by omega))) (kPi.push hP.2.2)) (ksS rfl (ksS rfl (ksS rfl (ksS rfl (ksS rfl (ksS rfl (ksS rfl (ksS rfl (ksS rfl (ks0 ksN))))))))))
theorem hX12_given {w : KW} {l : Launch} {u : KMem} (hu : kWd u) {g : Nat → Int32} (eg : u.2.1 414 = g) (hg : kGI g) (t : Nat) (ht : t < kN g 3) (a b c d : Int32) : KC w l mX12_given 2 0 0 [.ref 413, .int (nI t), .int a, .int b, .int c, .int d] u (kp kSP u (some (.int (kGiven g t a b c d)))) := by
  subst eg
  exact rX12_given hu hg t ht a b c d
set_option maxRecDepth 20000 in
set_option maxHeartbeats 4000000 in
theorem rX12_agreed {w : KW} {l : Launch} {u : KMem} (hu : kWd u) {g : Nat → Int32} (eg : u.2.1 414 = g) (hg : kGI g) (x : Nat) (hx : x < kN g 2) : KC w l mX12_agreed 5 0 0 [.ref 413, .int (nI x)] u (kp kSP u (some (.int (kAgr g x)))) := by
  have hx20 := (hg.cnt (k := 2) rfl).2
  have hc30 := (hg.cnt (k := 0) rfl).2
  have ht10 := (hg.cnt (k := 3) rfl).2
  have he40 := (hg.cnt (k := 4) rfl).2
  refine KC.of (ls := [_, _, _, _, _, _]) rfl rfl (Nat.le_of_ble_eq_true rfl) ?_
  refine kv_aload_n dX12_agreed_0 rfl ?_
  refine kv_iload_n dX12_agreed_1 rfl ?_
  refine kw_Vi [_] mX12_left dX12_agreed_2 lX12_139 wX12_left kC12 hu rfl (by first | rfl | assumption) rfl rfl rfl (gX12_left hu eg hg x hx) (by decide) ?_
  refine kv_istore_n (ls2 := [_, _, _, _, _, _]) dX12_agreed_5 rfl rfl rfl rfl ?_
  refine kv_aload_n dX12_agreed_6 rfl ?_
  refine kv_iconst dX12_agreed_7 0 ki_0 ?_
  refine kv_aload_n dX12_agreed_8 rfl ?_
  refine kv_iload_n dX12_agreed_9 rfl ?_
  refine kv_iconst dX12_agreed_10 2 ki_2 ?_
  refine kw_Vi [_, _] mX12_crash_ dX12_agreed_11 lX12_113 wX12_crash_ kC12 hu rfl (by first | rfl | assumption) rfl rfl rfl (gX12_crash_ hu eg x 2 (by omega) (by decide)) (by decide) ?_
  refine kw_Vi [_, _] mX12_inForce dX12_agreed_14 lX12_142 wX12_inForce kC12 hu rfl (by first | rfl | assumption) rfl rfl rfl (gX12_inForce hu eg hg _ _) (by decide) ?_
  refine kv_istore_n (ls2 := [_, _, _, _, _, _]) dX12_agreed_17 rfl rfl rfl rfl ?_
  refine kv_aload_n dX12_agreed_18 rfl ?_
  refine kv_iload_n dX12_agreed_19 rfl ?_
  refine kv_iconst dX12_agreed_20 0 ki_0 ?_
  refine kw_Vi [_, _] mX12_end dX12_agreed_21 lX12_145 wX12_end kC12 hu rfl (by first | rfl | assumption) rfl rfl rfl (gX12_end0 hu eg hg _) (by decide) ?_
  refine kv_istore (ls2 := [_, _, _, _, _, _]) dX12_agreed_24 rfl rfl rfl rfl ?_
  refine kv_aload_n dX12_agreed_26 rfl ?_
  refine kv_iload_n dX12_agreed_27 rfl ?_
  refine kv_iconst dX12_agreed_28 1 ki_1 ?_
  refine kw_Vi [_, _] mX12_end dX12_agreed_29 lX12_145 wX12_end kC12 hu rfl (by first | rfl | assumption) rfl rfl rfl (gX12_end1 hu eg hg _) (by decide) ?_
  refine kv_istore (ls2 := [_, _, _, _, _, _]) dX12_agreed_32 rfl rfl rfl rfl ?_
  refine kv_iload_n dX12_agreed_34 rfl ?_
  refine kv_if_ge dX12_agreed_35 48 (by decide) (fun h1 => ?_) (fun h1 => ?_)
  · have hT := kInF_ge (by omega) h1
    have hc := h1
    refine kv_aload_n dX12_agreed_48 rfl ?_
    refine kv_iload_n dX12_agreed_49 rfl ?_
    rw [hT.2]
    refine kv_iload dX12_agreed_50 rfl ?_
    refine kv_iload dX12_agreed_52 rfl ?_
    refine kv_iload_n dX12_agreed_54 rfl ?_
    refine kw_Si [_] mX12_bits dX12_agreed_55 lX12_149 wX12_bits rfl rfl rfl (qX12_bits hu _) (by decide) ?_
    refine kv_aload_n dX12_agreed_58 rfl ?_
    refine kv_iload_n dX12_agreed_59 rfl ?_
    refine kv_iconst dX12_agreed_60 3 ki_3 ?_
    refine kw_Vi [_, _] mX12_crash_ dX12_agreed_61 lX12_113 wX12_crash_ kC12 hu rfl (by first | rfl | assumption) rfl rfl rfl (gX12_crash_ hu eg x 3 (by omega) (by decide)) (by decide) ?_
    refine kw_Vpi [_, _, _, _, _] mX12_given dX12_agreed_64 lX12_152 wX12_given kC12 hu rfl (by first | rfl | assumption) rfl rfl rfl (hX12_given hu eg hg _ hT.1 _ _ _ _) (by decide) (fun v1 e1 => ?_)
    have hu1 := e1.wd hu
    have E1 := e1
    have eg1 : v1.2.1 414 = g := (E1.row kSP_now).trans eg
    refine kv_bipush dX12_agreed_67 100 kb_100 ?_
    refine kw_Si [_, _] mX12_hold dX12_agreed_69 lX12_156 wX12_hold rfl rfl rfl (qX12_hold hu1 _ _) (by decide) ?_
    exact kv_iret dX12_agreed_72 rfl ⟨by unfold kAgr; first | (rw [if_pos hc]; rfl) | (rw [if_neg hc]; rfl), E1⟩
  · have hc := h1
    refine kv_iload dX12_agreed_38 rfl ?_
    refine kv_iload dX12_agreed_40 rfl ?_
    refine kv_iadd dX12_agreed_42 ?_
    refine kv_iconst dX12_agreed_43 2 ki_2 ?_
    refine kv_idiv dX12_agreed_44 (by decide) ?_
    refine kv_goto dX12_agreed_45 67 (by decide) ?_
    refine kv_bipush dX12_agreed_67 100 kb_100 ?_
    refine kw_Si [_, _] mX12_hold dX12_agreed_69 lX12_156 wX12_hold rfl rfl rfl (qX12_hold hu _ _) (by decide) ?_
    exact kv_iret dX12_agreed_72 rfl ⟨by unfold kAgr; first | (rw [if_pos hc]; rfl) | (rw [if_neg hc]; rfl), kEq.rf⟩
set_option maxRecDepth 20000 in
set_option maxHeartbeats 4000000 in
theorem rX12_claimOf {w : KW} {l : Launch} {u : KMem} (hu : kWd u) {g : Nat → Int32} (eg : u.2.1 414 = g) (hg : kGI g) (x s : Nat) (hx : x < kN g 2) (hs : s < 2) : KC w l mX12_claimOf 7 0 0 [.ref 413, .int (nI x), .int (nI s)] u (kp kSP u (some (.int (kClm g x s)))) := by
  have hx20 := (hg.cnt (k := 2) rfl).2
  have hc30 := (hg.cnt (k := 0) rfl).2
  have ht10 := (hg.cnt (k := 3) rfl).2
  have he40 := (hg.cnt (k := 4) rfl).2
  refine KC.of (ls := [_, _, _, _]) rfl rfl (Nat.le_of_ble_eq_true rfl) ?_
  refine kv_iload_n dX12_claimOf_0 rfl ?_
  refine kv_if_ne dX12_claimOf_1 15 (by decide) (fun h1 => ?_) (fun h1 => ?_)
  · have hs1 : ¬ s = 0 := fun q => h1 (by rw [q]; rfl)
    refine kv_aload_n dX12_claimOf_15 rfl ?_
    refine kv_iload_n dX12_claimOf_16 rfl ?_
    refine kw_Vpi [_] mX12_agreed dX12_claimOf_17 lX12_159 wX12_agreed kC12 hu rfl (by first | rfl | assumption) rfl rfl rfl (rX12_agreed hu eg hg x hx) (by decide) (fun v1 e1 => ?_)
    have hu1 := e1.wd hu
    have E1 := e1
    have eg1 : v1.2.1 414 = g := (E1.row kSP_now).trans eg
    refine kv_istore_n (ls2 := [_, _, _, _]) dX12_claimOf_20 rfl rfl rfl rfl ?_
    refine kv_aload_n dX12_claimOf_21 rfl ?_
    refine kv_iload_n dX12_claimOf_22 rfl ?_
    refine kv_iload_n dX12_claimOf_23 rfl ?_
    refine kw_Vi [_, _] mX12_lossOf dX12_claimOf_24 lX12_174 wX12_lossOf kC12 hu1 rfl (by first | rfl | assumption) rfl rfl rfl (gX12_lossOf hu1 eg1 hg x s hx hs) (by decide) ?_
    refine kv_aload_n dX12_claimOf_27 rfl ?_
    refine kv_iload_n dX12_claimOf_28 rfl ?_
    refine kv_iload_n dX12_claimOf_29 rfl ?_
    refine kw_Vi [_, _] mX12_hireDays dX12_claimOf_30 lX12_177 wX12_hireDays kC12 hu1 rfl (by first | rfl | assumption) rfl rfl rfl (gX12_hireDays hu1 eg1 hg x s hx hs) (by decide) ?_
    refine kv_aload_n dX12_claimOf_33 rfl ?_
    refine kw_gR dX12_claimOf_34 fX12_9 hu1 (by first | rfl | assumption) rfl rfl (by first | rfl | assumption) ?_
    refine kv_bipush dX12_claimOf_37 12 kb_12 ?_
    refine kw_ig dX12_claimOf_39 hu1 eg1 rfl (_) (show (12 : Int32) = nI 12 from rfl) (by omega) rfl ?_
    refine kv_imul dX12_claimOf_40 ?_
    refine kv_iadd dX12_claimOf_41 ?_
    refine kv_iload_n dX12_claimOf_42 rfl ?_
    refine kv_imul dX12_claimOf_43 ?_
    refine kv_bipush dX12_claimOf_44 100 kb_100 ?_
    refine kv_idiv dX12_claimOf_46 (by decide) ?_
    exact kv_iret dX12_claimOf_47 rfl ⟨by unfold kClm; first | rw [if_pos ‹s = 0›] | rw [if_neg ‹¬ s = 0›], E1⟩
  · have hs0 : s = 0 := (kn_eq (by omega) (by omega)).mp h1
    refine kv_bipush dX12_claimOf_4 100 kb_100 ?_
    refine kv_aload_n dX12_claimOf_6 rfl ?_
    refine kv_iload_n dX12_claimOf_7 rfl ?_
    refine kw_Vpi [_] mX12_agreed dX12_claimOf_8 lX12_159 wX12_agreed kC12 hu rfl (by first | rfl | assumption) rfl rfl rfl (rX12_agreed hu eg hg x hx) (by decide) (fun v1 e1 => ?_)
    have hu1 := e1.wd hu
    have E1 := e1
    have eg1 : v1.2.1 414 = g := (E1.row kSP_now).trans eg
    refine kv_isub dX12_claimOf_11 ?_
    refine kv_goto dX12_claimOf_12 20 (by decide) ?_
    refine kv_istore_n (ls2 := [_, _, _, _]) dX12_claimOf_20 rfl rfl rfl rfl ?_
    refine kv_aload_n dX12_claimOf_21 rfl ?_
    refine kv_iload_n dX12_claimOf_22 rfl ?_
    refine kv_iload_n dX12_claimOf_23 rfl ?_
    refine kw_Vi [_, _] mX12_lossOf dX12_claimOf_24 lX12_174 wX12_lossOf kC12 hu1 rfl (by first | rfl | assumption) rfl rfl rfl (gX12_lossOf hu1 eg1 hg x s hx hs) (by decide) ?_
    refine kv_aload_n dX12_claimOf_27 rfl ?_
    refine kv_iload_n dX12_claimOf_28 rfl ?_
    refine kv_iload_n dX12_claimOf_29 rfl ?_
    refine kw_Vi [_, _] mX12_hireDays dX12_claimOf_30 lX12_177 wX12_hireDays kC12 hu1 rfl (by first | rfl | assumption) rfl rfl rfl (gX12_hireDays hu1 eg1 hg x s hx hs) (by decide) ?_
    refine kv_aload_n dX12_claimOf_33 rfl ?_
    refine kw_gR dX12_claimOf_34 fX12_9 hu1 (by first | rfl | assumption) rfl rfl (by first | rfl | assumption) ?_
    refine kv_bipush dX12_claimOf_37 12 kb_12 ?_
    refine kw_ig dX12_claimOf_39 hu1 eg1 rfl (_) (show (12 : Int32) = nI 12 from rfl) (by omega) rfl ?_
    refine kv_imul dX12_claimOf_40 ?_
    refine kv_iadd dX12_claimOf_41 ?_
    refine kv_iload_n dX12_claimOf_42 rfl ?_
    refine kv_imul dX12_claimOf_43 ?_
    refine kv_bipush dX12_claimOf_44 100 kb_100 ?_
    refine kv_idiv dX12_claimOf_46 (by decide) ?_
    exact kv_iret dX12_claimOf_47 rfl ⟨by unfold kClm; first | rw [if_pos ‹s = 0›] | rw [if_neg ‹¬ s = 0›], E1⟩
set_option maxRecDepth 20000 in
set_option maxHeartbeats 4000000 in
theorem rX12_isDisputed {w : KW} {l : Launch} {u : KMem} (hu : kWd u) {g : Nat → Int32} (eg : u.2.1 414 = g) (hg : kGI g) (e : Nat) (he : e < kN g 4) : KC w l mX12_isDisputed 8 0 0 [.ref 413, .int (nI e)] u (kp kSP u (some (.int (@ite _ (kDisp g e) (Classical.propDecidable _) 1 0)))) := by
  have hx20 := (hg.cnt (k := 2) rfl).2
  have hc30 := (hg.cnt (k := 0) rfl).2
  have ht10 := (hg.cnt (k := 3) rfl).2
  have he40 := (hg.cnt (k := 4) rfl).2
  have hE := hg.ent he
  refine KC.of (ls := [_, _, _, _, _, _]) rfl rfl (Nat.le_of_ble_eq_true rfl) ?_
  refine kv_aload_n dX12_isDisputed_0 rfl ?_
  refine kv_iload_n dX12_isDisputed_1 rfl ?_
  refine kv_iconst dX12_isDisputed_2 0 ki_0 ?_
  refine kw_Vi [_, _] mX12_line dX12_isDisputed_3 lX12_292 wX12_line kC12 hu rfl (by first | rfl | assumption) rfl rfl rfl (gX12_line hu eg e 0 (by omega) (by decide)) (by decide) ?_
  rw [hE.1]
  refine kv_istore_n (ls2 := [_, _, _, _, _, _]) dX12_isDisputed_6 rfl rfl rfl rfl ?_
  refine kv_aload_n dX12_isDisputed_7 rfl ?_
  refine kv_iload_n dX12_isDisputed_8 rfl ?_
  refine kv_aload_n dX12_isDisputed_9 rfl ?_
  refine kv_iload_n dX12_isDisputed_10 rfl ?_
  refine kv_iconst dX12_isDisputed_11 1 ki_1 ?_
  refine kw_Vi [_, _] mX12_line dX12_isDisputed_12 lX12_292 wX12_line kC12 hu rfl (by first | rfl | assumption) rfl rfl rfl (gX12_line hu eg e 1 (by omega) (by decide)) (by decide) ?_
  rw [hE.2.2.1]
  refine kw_Vpi [_, _] mX12_claimOf dX12_isDisputed_15 lX12_180 wX12_claimOf kC12 hu rfl (by first | rfl | assumption) rfl rfl rfl (rX12_claimOf hu eg hg _ _ hE.2.1 hE.2.2.2) (by decide) (fun v1 e1 => ?_)
  have hu1 := e1.wd hu
  have E1 := e1
  have eg1 : v1.2.1 414 = g := (E1.row kSP_now).trans eg
  refine kv_istore_n (ls2 := [_, _, _, _, _, _]) dX12_isDisputed_18 rfl rfl rfl rfl ?_
  refine kv_aload_n dX12_isDisputed_19 rfl ?_
  refine kv_iload_n dX12_isDisputed_20 rfl ?_
  refine kv_iconst dX12_isDisputed_21 2 ki_2 ?_
  refine kw_Vi [_, _] mX12_line dX12_isDisputed_22 lX12_292 wX12_line kC12 hu1 rfl (by first | rfl | assumption) rfl rfl rfl (gX12_line hu1 eg1 e 2 (by omega) (by decide)) (by decide) ?_
  refine kv_istore (ls2 := [_, _, _, _, _, _]) dX12_isDisputed_25 rfl rfl rfl rfl ?_
  refine kv_aload_n dX12_isDisputed_27 rfl ?_
  refine kv_iconst dX12_isDisputed_28 2 ki_2 ?_
  refine kv_aload_n dX12_isDisputed_29 rfl ?_
  refine kv_iload_n dX12_isDisputed_30 rfl ?_
  refine kv_iconst dX12_isDisputed_31 2 ki_2 ?_
  refine kw_Vi [_, _] mX12_crash_ dX12_isDisputed_32 lX12_113 wX12_crash_ kC12 hu1 rfl (by first | rfl | assumption) rfl rfl rfl (gX12_crash_ hu1 eg1 _ 2 (by have := hE.2.1; omega) (by decide)) (by decide) ?_
  refine kw_Vi [_, _] mX12_inForce dX12_isDisputed_35 lX12_142 wX12_inForce kC12 hu1 rfl (by first | rfl | assumption) rfl rfl rfl (gX12_inForce hu1 eg1 hg _ _) (by decide) ?_
  refine kv_istore (ls2 := [_, _, _, _, _, _]) dX12_isDisputed_38 rfl rfl rfl rfl ?_
  refine kv_iload dX12_isDisputed_40 rfl ?_
  refine kv_if_ge dX12_isDisputed_42 67 (by decide) (fun h1 => ?_) (fun h1 => ?_)
  · have hT := kInF_ge (by omega) h1
    have hc := h1
    refine kv_aload_n dX12_isDisputed_67 rfl ?_
    refine kv_iload dX12_isDisputed_68 rfl ?_
    rw [hT.2]
    refine kv_iload dX12_isDisputed_70 rfl ?_
    refine kv_iload_n dX12_isDisputed_72 rfl ?_
    refine kv_aload_n dX12_isDisputed_73 rfl ?_
    refine kw_gR dX12_isDisputed_74 fX12_9 hu1 (by first | rfl | assumption) rfl rfl (by first | rfl | assumption) ?_
    refine kv_bipush dX12_isDisputed_77 13 kb_13 ?_
    refine kw_ig dX12_isDisputed_79 hu1 eg1 rfl (_) (show (13 : Int32) = nI 13 from rfl) (by omega) rfl ?_
    refine kv_iconst dX12_isDisputed_80 0 ki_0 ?_
    refine kw_Vpi [_, _, _, _, _] mX12_given dX12_isDisputed_81 lX12_152 wX12_given kC12 hu1 rfl (by first | rfl | assumption) rfl rfl rfl (hX12_given hu1 eg1 hg _ hT.1 _ _ _ _) (by decide) (fun v2 e2 => ?_)
    have hu2 := e2.wd hu1
    have E2 := E1.tr e2
    have eg2 : v2.2.1 414 = g := (E2.row kSP_now).trans eg
    refine kv_if_eq dX12_isDisputed_84 91 (by decide) (fun h2 => ?_) (fun h2 => ?_)
    · refine kv_iconst dX12_isDisputed_91 0 ki_0 ?_
      exact kv_zret dX12_isDisputed_92 rfl kv_z0 ⟨by first | rw [if_pos (show kDisp g e by unfold kDisp; first | (rw [if_pos hc]; assumption) | (rw [if_neg hc]; assumption))] | rw [if_neg (show ¬ kDisp g e by unfold kDisp; first | (rw [if_pos hc]; exact fun q => q ‹_›) | (rw [if_neg hc]; exact fun q => q ‹_›))], E2⟩
    · refine kv_iconst dX12_isDisputed_87 1 ki_1 ?_
      refine kv_goto dX12_isDisputed_88 92 (by decide) ?_
      exact kv_zret dX12_isDisputed_92 rfl kv_z1 ⟨by first | rw [if_pos (show kDisp g e by unfold kDisp; first | (rw [if_pos hc]; assumption) | (rw [if_neg hc]; assumption))] | rw [if_neg (show ¬ kDisp g e by unfold kDisp; first | (rw [if_pos hc]; exact fun q => q ‹_›) | (rw [if_neg hc]; exact fun q => q ‹_›))], E2⟩
  · have hc := h1
    refine kv_iload dX12_isDisputed_45 rfl ?_
    refine kv_iload_n dX12_isDisputed_47 rfl ?_
    refine kv_aload_n dX12_isDisputed_48 rfl ?_
    refine kw_gR dX12_isDisputed_49 fX12_9 hu1 (by first | rfl | assumption) rfl rfl (by first | rfl | assumption) ?_
    refine kv_bipush dX12_isDisputed_52 13 kb_13 ?_
    refine kw_ig dX12_isDisputed_54 hu1 eg1 rfl (_) (show (13 : Int32) = nI 13 from rfl) (by omega) rfl ?_
    refine kv_iadd dX12_isDisputed_55 ?_
    refine kv_icmp_le dX12_isDisputed_56 63 (by decide) (fun h3 => ?_) (fun h3 => ?_)
    · refine kv_iconst dX12_isDisputed_63 0 ki_0 ?_
      refine kv_goto dX12_isDisputed_64 92 (by decide) ?_
      exact kv_zret dX12_isDisputed_92 rfl kv_z0 ⟨by first | rw [if_pos (show kDisp g e by unfold kDisp; first | (rw [if_pos hc]; assumption) | (rw [if_neg hc]; assumption))] | rw [if_neg (show ¬ kDisp g e by unfold kDisp; first | (rw [if_pos hc]; exact fun q => q ‹_›) | (rw [if_neg hc]; exact fun q => q ‹_›))], E1⟩
    · refine kv_iconst dX12_isDisputed_59 1 ki_1 ?_
      refine kv_goto dX12_isDisputed_60 92 (by decide) ?_
      exact kv_zret dX12_isDisputed_92 rfl kv_z1 ⟨by first | rw [if_pos (show kDisp g e by unfold kDisp; first | (rw [if_pos hc]; assumption) | (rw [if_neg hc]; assumption))] | rw [if_neg (show ¬ kDisp g e by unfold kDisp; first | (rw [if_pos hc]; exact fun q => q ‹_›) | (rw [if_neg hc]; exact fun q => q ‹_›))], E1⟩
set_option maxRecDepth 20000 in
set_option maxHeartbeats 4000000 in
theorem rX9_comesTo {w : KW} {l : Launch} {u : KMem} (hu : kWd u) {g : Nat → Int32} (hr : kRS 1 g u) (hg : kGI g) (t : Nat) (ht : t < kN g 3) {a b c d : Int32} (ha : u.2.1 386 0 = a) (hb : u.2.1 386 1 = b) (hcc : u.2.1 386 2 = c) (hd : u.2.1 386 3 = d) : KC w l mX9_comesTo 1 0 0 [.ref (1 + (132 + 2 * t)), .ref 386, .ref 387] u (kp kSJ u (some (.int (kGiven g t a b c d)))) := by
  have ht10 := (hg.cnt (k := 3) rfl).2
  obtain ⟨-, -, hn, hD⟩ := hg.2.2.2.2.2.2.1 t ht
  have hn0 : g (468 + 66 * t + 2) = nI (kN g (468 + 66 * t + 2)) ∧ kN g (468 + 66 * t + 2) ≤ 60 := hn.n (by omega)
  have hn60 := hn0.2
  have kt := ks_treaty t (by omega)
  have kt1 := kt.1
  have kt2 := kt.2.1
  have kt3 := kt.2.2.1
  refine KC.of (ls := [_, _, _, _, _, _]) rfl rfl (Nat.le_of_ble_eq_true rfl) ?_
  refine kv_iconst dX9_comesTo_0 (-1) ki_m1 ?_
  refine kv_istore_n (ls2 := [_, _, _, _, _, _]) dX9_comesTo_1 rfl rfl rfl rfl ?_
  refine kv_iconst dX9_comesTo_2 0 ki_0 ?_
  refine kv_istore (ls2 := [_, _, _, _, _, _]) dX9_comesTo_3 rfl rfl rfl rfl ?_
  refine KV.loc (ls2 := [some (.ref (1 + (132 + 2 * t))), some (.ref 386), some (.ref 387), some (.int (nI 0 - 1)), some (.int (nI 0)), none]) ?_ (ksS rfl (ksS rfl (ksS rfl (ksS rfl (ksS rfl (ks0 ksN))))))
  refine kn_loop (P := fun i => ∀ (v : KMem) (L : List Int32), kGv (fun k => g (468 + 66 * t + 3 + k)) a b c d i = L → kEq kS7 u v → kPi 387 v L → KV w l mX9_comesTo 1 0 0 5 [some (.ref (1 + (132 + 2 * t))), some (.ref 386), some (.ref 387), some (.int (nI L.length - 1)), some (.int (nI i)), none] [] v (kp kSJ u (some (.int (kGiven g t a b c d))))) (kN g (468 + 66 * t + 2)) ?_ (fun i hi ih => ?_) u [] rfl kEq.rf trivial
  · intro v L hL E hP
    have hu2 := E.wd hu
    have hrv := hr.eqJ hg (kS7_J E)
    have hl1 := kGv_len (a := a) (b := b) (c := c) (d := d) hD
    rw [hL] at hl1
    rw [hl1]
    refine kv_iload dX9_comesTo_5 rfl ?_
    refine kv_aload_n dX9_comesTo_7 rfl ?_
    refine kw_gI dX9_comesTo_8 fX9_22 hu2 (by first | rfl | assumption) rfl rfl ?_
    rw [hrv.tlen ht, hn0.1]
    refine kv_icmp_ge dX9_comesTo_11 185 (by decide) (fun h1 => ?_) (fun h1 => ?_)
    · refine kv_iload_n dX9_comesTo_185 rfl ?_
      refine kv_if_lt dX9_comesTo_186 195 (by decide) (fun h2 => ?_) (fun h2 => ?_)
      · exact absurd h2 (by decide)
      · refine kv_aload_n dX9_comesTo_189 rfl ?_
        refine kv_iload_n dX9_comesTo_190 rfl ?_
        refine kw_il dX9_comesTo_191 hu2 (by first | rfl | assumption) (0) (by decide) (by decide) rfl ?_
        refine kv_goto dX9_comesTo_192 196 (by decide) ?_
        exact kv_iret dX9_comesTo_196 rfl ⟨kGv_end hD hL hP, kS7_J E⟩
    · exact (kn_nge h1).elim
  · intro v L hL E hP
    have hu2 := E.wd hu
    have hrv := hr.eqJ hg (kS7_J E)
    obtain ⟨hl, hone, htwo⟩ := kGv_at (a := a) (b := b) (c := c) (d := d) hD hi
    rw [hL] at hl hone htwo
    refine kv_iload dX9_comesTo_5 rfl ?_
    refine kv_aload_n dX9_comesTo_7 rfl ?_
    refine kw_gI dX9_comesTo_8 fX9_22 hu2 (by first | rfl | assumption) rfl rfl ?_
    rw [hrv.tlen ht, hn0.1]
    refine kv_icmp_ge dX9_comesTo_11 185 (by decide) (fun h3 => ?_) (fun h3 => ?_)
    · exact absurd h3 (kn_ge hi (by omega))
    · refine kv_aload_n dX9_comesTo_14 rfl ?_
      refine kw_gR dX9_comesTo_15 fX9_9 hu2 (by first | rfl | assumption) rfl rfl (by first | rfl | assumption) ?_
      refine kv_iload dX9_comesTo_18 rfl ?_
      refine kw_il dX9_comesTo_20 hu2 (by first | rfl | assumption) (i) rfl (by omega) rfl ?_
      rw [hrv.step ht hi]
      refine kv_istore (ls2 := [_, _, _, _, _, _]) dX9_comesTo_21 rfl rfl rfl rfl ?_
      rcases kCode hD hi with hc | hc | hc | hc | hc | hc | hc | hc | hc | hc | hc | hc | hc | hc | hc | hc | hc | hc
      · have hG : kGv (fun k => g (468 + 66 * t + 3 + k)) a b c d (i + 1) = (g (468 + 66 * t + 3 + i)) :: L := by
          rw [kGv, hL]; unfold kGs; rw [if_pos (show ¬ 20000 ≤ (g (468 + 66 * t + 3 + i)) from fun q => hc.2 (by rw [kLe, kT10000]; rw [kLe, kT20000] at q; omega)), if_pos (show ¬ 10000 ≤ (g (468 + 66 * t + 3 + i)) from hc.2)]
        rw [kEnc_n hc.2]
        refine kv_iload dX9_comesTo_23 rfl ?_
        refine kv_if_lt dX9_comesTo_25 47 (by decide) (fun h4 => ?_) (fun h4 => ?_)
        · exact absurd h4 hc.1
        · refine kv_iload_n dX9_comesTo_28 rfl ?_
          refine kv_iconst dX9_comesTo_29 1 ki_1 ?_
          refine kv_iadd dX9_comesTo_30 ?_
          rw [kn_pm]
          refine kv_aload_n dX9_comesTo_31 rfl ?_
          refine kw_len (t := 0) dX9_comesTo_32 hu2 (by first | rfl | assumption) rfl rfl ?_
          refine kv_icmp_ge dX9_comesTo_33 47 (by decide) (fun h5 => ?_) (fun h5 => ?_)
          · exact absurd h5 (nI_ge (b := 60) (by omega) (by omega))
          · refine kv_iinc (ls2 := [_, _, _, _, _, _]) dX9_comesTo_36 (nI (L.length)) rfl (kn_pi _) rfl rfl rfl rfl ?_
            refine kv_aload_n dX9_comesTo_39 rfl ?_
            refine kv_iload_n dX9_comesTo_40 rfl ?_
            refine kv_iload dX9_comesTo_41 rfl ?_
            refine kw_is dX9_comesTo_43 hu2 (by first | rfl | assumption) (L.length) rfl (by omega) rfl ?_
            refine kv_goto dX9_comesTo_44 179 (by decide) ?_
            refine kv_iinc (ls2 := [_, _, _, _, _, _]) dX9_comesTo_179 (nI (i + 1)) rfl (kv_inc1 i) rfl rfl rfl rfl ?_
            refine kv_goto dX9_comesTo_182 5 (by decide) ?_
            first | exact KV.loc (ih _ _ hG (E.si rfl) hP.push) (ksS rfl (ksS rfl (ksS rfl (ksS (congrArg (fun z => some (Value.int z)) (nI_pred _).symm) (ksS rfl (ks0 ksN)))))) | exact KV.loc (ih _ _ hG (E.si rfl) (kPi.push hP.2)) (ksS rfl (ksS rfl (ksS rfl (ksS (congrArg (fun z => some (Value.int z)) (nI_pred _).symm) (ksS rfl (ks0 ksN)))))) | exact KV.loc (ih _ _ hG (E.si rfl) (kPi.push hP.2.2)) (ksS rfl (ksS rfl (ksS rfl (ksS (congrArg (fun z => some (Value.int z)) (nI_pred _).symm) (ksS rfl (ks0 ksN))))))
      · have hG : kGv (fun k => g (468 + 66 * t + 3 + k)) a b c d (i + 1) = a :: L := by rw [kGv, hL]; show kGs _ _ _ _ (g (468 + 66 * t + 3 + i)) _ = _; rw [hc]; rfl
        rw [hc, show kEnc 10000 = -1 from by decide]
        refine kv_iload dX9_comesTo_23 rfl ?_
        refine kv_if_lt dX9_comesTo_25 47 (by decide) (fun h6 => ?_) (fun h6 => ?_)
        · refine kv_iload dX9_comesTo_47 rfl ?_
          refine kv_if_ge dX9_comesTo_49 92 (by decide) (fun h7 => ?_) (fun h7 => ?_)
          · exact absurd h7 (by decide)
          · refine kv_iload dX9_comesTo_52 rfl ?_
            refine kv_sipush dX9_comesTo_54 (-1000) kz_m1000 ?_
            refine kv_icmp_le dX9_comesTo_57 92 (by decide) (fun h8 => ?_) (fun h8 => ?_)
            · exact absurd h8 (by decide)
            · refine kv_iconst dX9_comesTo_60 (-1) ki_m1 ?_
              refine kv_iload dX9_comesTo_61 rfl ?_
              refine kv_isub dX9_comesTo_63 ?_
              refine kv_aload_n dX9_comesTo_64 rfl ?_
              refine kw_len (t := 0) dX9_comesTo_65 hu2 (by first | rfl | assumption) rfl rfl ?_
              refine kv_icmp_ge dX9_comesTo_66 92 (by decide) (fun h9 => ?_) (fun h9 => ?_)
              · exact absurd h9 (by decide)
              · refine kv_iload_n dX9_comesTo_69 rfl ?_
                refine kv_iconst dX9_comesTo_70 1 ki_1 ?_
                refine kv_iadd dX9_comesTo_71 ?_
                rw [kn_pm]
                refine kv_aload_n dX9_comesTo_72 rfl ?_
                refine kw_len (t := 0) dX9_comesTo_73 hu2 (by first | rfl | assumption) rfl rfl ?_
                refine kv_icmp_ge dX9_comesTo_74 92 (by decide) (fun h10 => ?_) (fun h10 => ?_)
                · exact absurd h10 (nI_ge (b := 60) (by omega) (by omega))
                · refine kv_iinc (ls2 := [_, _, _, _, _, _]) dX9_comesTo_77 (nI (L.length)) rfl (kn_pi _) rfl rfl rfl rfl ?_
                  refine kv_aload_n dX9_comesTo_80 rfl ?_
                  refine kv_iload_n dX9_comesTo_81 rfl ?_
                  refine kv_aload_n dX9_comesTo_82 rfl ?_
                  refine kv_iconst dX9_comesTo_83 (-1) ki_m1 ?_
                  refine kv_iload dX9_comesTo_84 rfl ?_
                  refine kv_isub dX9_comesTo_86 ?_
                  refine kw_il dX9_comesTo_87 hu2 (by first | rfl | assumption) (0) (by decide) (by decide) rfl ?_
                  rw [E.2.2.1 386 0 (by unfold kS7; omega), ha]
                  refine kw_is dX9_comesTo_88 hu2 (by first | rfl | assumption) (L.length) rfl (by omega) rfl ?_
                  refine kv_goto dX9_comesTo_89 179 (by decide) ?_
                  refine kv_iinc (ls2 := [_, _, _, _, _, _]) dX9_comesTo_179 (nI (i + 1)) rfl (kv_inc1 i) rfl rfl rfl rfl ?_
                  refine kv_goto dX9_comesTo_182 5 (by decide) ?_
                  first | exact KV.loc (ih _ _ hG (E.si rfl) hP.push) (ksS rfl (ksS rfl (ksS rfl (ksS (congrArg (fun z => some (Value.int z)) (nI_pred _).symm) (ksS rfl (ks0 ksN)))))) | exact KV.loc (ih _ _ hG (E.si rfl) (kPi.push hP.2)) (ksS rfl (ksS rfl (ksS rfl (ksS (congrArg (fun z => some (Value.int z)) (nI_pred _).symm) (ksS rfl (ks0 ksN)))))) | exact KV.loc (ih _ _ hG (E.si rfl) (kPi.push hP.2.2)) (ksS rfl (ksS rfl (ksS rfl (ksS (congrArg (fun z => some (Value.int z)) (nI_pred _).symm) (ksS rfl (ks0 ksN))))))
        · exact absurd (by decide) h6
      · have hG : kGv (fun k => g (468 + 66 * t + 3 + k)) a b c d (i + 1) = b :: L := by rw [kGv, hL]; show kGs _ _ _ _ (g (468 + 66 * t + 3 + i)) _ = _; rw [hc]; rfl
        rw [hc, show kEnc 10001 = -2 from by decide]
        refine kv_iload dX9_comesTo_23 rfl ?_
        refine kv_if_lt dX9_comesTo_25 47 (by decide) (fun h11 => ?_) (fun h11 => ?_)
        · refine kv_iload dX9_comesTo_47 rfl ?_
          refine kv_if_ge dX9_comesTo_49 92 (by decide) (fun h12 => ?_) (fun h12 => ?_)
          · exact absurd h12 (by decide)
          · refine kv_iload dX9_comesTo_52 rfl ?_
            refine kv_sipush dX9_comesTo_54 (-1000) kz_m1000 ?_
            refine kv_icmp_le dX9_comesTo_57 92 (by decide) (fun h13 => ?_) (fun h13 => ?_)
            · exact absurd h13 (by decide)
            · refine kv_iconst dX9_comesTo_60 (-1) ki_m1 ?_
              refine kv_iload dX9_comesTo_61 rfl ?_
              refine kv_isub dX9_comesTo_63 ?_
              refine kv_aload_n dX9_comesTo_64 rfl ?_
              refine kw_len (t := 0) dX9_comesTo_65 hu2 (by first | rfl | assumption) rfl rfl ?_
              refine kv_icmp_ge dX9_comesTo_66 92 (by decide) (fun h14 => ?_) (fun h14 => ?_)
              · exact absurd h14 (by decide)
              · refine kv_iload_n dX9_comesTo_69 rfl ?_
                refine kv_iconst dX9_comesTo_70 1 ki_1 ?_
                refine kv_iadd dX9_comesTo_71 ?_
                rw [kn_pm]
                refine kv_aload_n dX9_comesTo_72 rfl ?_
                refine kw_len (t := 0) dX9_comesTo_73 hu2 (by first | rfl | assumption) rfl rfl ?_
                refine kv_icmp_ge dX9_comesTo_74 92 (by decide) (fun h15 => ?_) (fun h15 => ?_)
                · exact absurd h15 (nI_ge (b := 60) (by omega) (by omega))
                · refine kv_iinc (ls2 := [_, _, _, _, _, _]) dX9_comesTo_77 (nI (L.length)) rfl (kn_pi _) rfl rfl rfl rfl ?_
                  refine kv_aload_n dX9_comesTo_80 rfl ?_
                  refine kv_iload_n dX9_comesTo_81 rfl ?_
                  refine kv_aload_n dX9_comesTo_82 rfl ?_
                  refine kv_iconst dX9_comesTo_83 (-1) ki_m1 ?_
                  refine kv_iload dX9_comesTo_84 rfl ?_
                  refine kv_isub dX9_comesTo_86 ?_
                  refine kw_il dX9_comesTo_87 hu2 (by first | rfl | assumption) (1) (by decide) (by decide) rfl ?_
                  rw [E.2.2.1 386 1 (by unfold kS7; omega), hb]
                  refine kw_is dX9_comesTo_88 hu2 (by first | rfl | assumption) (L.length) rfl (by omega) rfl ?_
                  refine kv_goto dX9_comesTo_89 179 (by decide) ?_
                  refine kv_iinc (ls2 := [_, _, _, _, _, _]) dX9_comesTo_179 (nI (i + 1)) rfl (kv_inc1 i) rfl rfl rfl rfl ?_
                  refine kv_goto dX9_comesTo_182 5 (by decide) ?_
                  first | exact KV.loc (ih _ _ hG (E.si rfl) hP.push) (ksS rfl (ksS rfl (ksS rfl (ksS (congrArg (fun z => some (Value.int z)) (nI_pred _).symm) (ksS rfl (ks0 ksN)))))) | exact KV.loc (ih _ _ hG (E.si rfl) (kPi.push hP.2)) (ksS rfl (ksS rfl (ksS rfl (ksS (congrArg (fun z => some (Value.int z)) (nI_pred _).symm) (ksS rfl (ks0 ksN)))))) | exact KV.loc (ih _ _ hG (E.si rfl) (kPi.push hP.2.2)) (ksS rfl (ksS rfl (ksS rfl (ksS (congrArg (fun z => some (Value.int z)) (nI_pred _).symm) (ksS rfl (ks0 ksN))))))
        · exact absurd (by decide) h11
      · have hG : kGv (fun k => g (468 + 66 * t + 3 + k)) a b c d (i + 1) = c :: L := by rw [kGv, hL]; show kGs _ _ _ _ (g (468 + 66 * t + 3 + i)) _ = _; rw [hc]; rfl
        rw [hc, show kEnc 10002 = -3 from by decide]
        refine kv_iload dX9_comesTo_23 rfl ?_
        refine kv_if_lt dX9_comesTo_25 47 (by decide) (fun h16 => ?_) (fun h16 => ?_)
        · refine kv_iload dX9_comesTo_47 rfl ?_
          refine kv_if_ge dX9_comesTo_49 92 (by decide) (fun h17 => ?_) (fun h17 => ?_)
          · exact absurd h17 (by decide)
          · refine kv_iload dX9_comesTo_52 rfl ?_
            refine kv_sipush dX9_comesTo_54 (-1000) kz_m1000 ?_
            refine kv_icmp_le dX9_comesTo_57 92 (by decide) (fun h18 => ?_) (fun h18 => ?_)
            · exact absurd h18 (by decide)
            · refine kv_iconst dX9_comesTo_60 (-1) ki_m1 ?_
              refine kv_iload dX9_comesTo_61 rfl ?_
              refine kv_isub dX9_comesTo_63 ?_
              refine kv_aload_n dX9_comesTo_64 rfl ?_
              refine kw_len (t := 0) dX9_comesTo_65 hu2 (by first | rfl | assumption) rfl rfl ?_
              refine kv_icmp_ge dX9_comesTo_66 92 (by decide) (fun h19 => ?_) (fun h19 => ?_)
              · exact absurd h19 (by decide)
              · refine kv_iload_n dX9_comesTo_69 rfl ?_
                refine kv_iconst dX9_comesTo_70 1 ki_1 ?_
                refine kv_iadd dX9_comesTo_71 ?_
                rw [kn_pm]
                refine kv_aload_n dX9_comesTo_72 rfl ?_
                refine kw_len (t := 0) dX9_comesTo_73 hu2 (by first | rfl | assumption) rfl rfl ?_
                refine kv_icmp_ge dX9_comesTo_74 92 (by decide) (fun h20 => ?_) (fun h20 => ?_)
                · exact absurd h20 (nI_ge (b := 60) (by omega) (by omega))
                · refine kv_iinc (ls2 := [_, _, _, _, _, _]) dX9_comesTo_77 (nI (L.length)) rfl (kn_pi _) rfl rfl rfl rfl ?_
                  refine kv_aload_n dX9_comesTo_80 rfl ?_
                  refine kv_iload_n dX9_comesTo_81 rfl ?_
                  refine kv_aload_n dX9_comesTo_82 rfl ?_
                  refine kv_iconst dX9_comesTo_83 (-1) ki_m1 ?_
                  refine kv_iload dX9_comesTo_84 rfl ?_
                  refine kv_isub dX9_comesTo_86 ?_
                  refine kw_il dX9_comesTo_87 hu2 (by first | rfl | assumption) (2) (by decide) (by decide) rfl ?_
                  rw [E.2.2.1 386 2 (by unfold kS7; omega), hcc]
                  refine kw_is dX9_comesTo_88 hu2 (by first | rfl | assumption) (L.length) rfl (by omega) rfl ?_
                  refine kv_goto dX9_comesTo_89 179 (by decide) ?_
                  refine kv_iinc (ls2 := [_, _, _, _, _, _]) dX9_comesTo_179 (nI (i + 1)) rfl (kv_inc1 i) rfl rfl rfl rfl ?_
                  refine kv_goto dX9_comesTo_182 5 (by decide) ?_
                  first | exact KV.loc (ih _ _ hG (E.si rfl) hP.push) (ksS rfl (ksS rfl (ksS rfl (ksS (congrArg (fun z => some (Value.int z)) (nI_pred _).symm) (ksS rfl (ks0 ksN)))))) | exact KV.loc (ih _ _ hG (E.si rfl) (kPi.push hP.2)) (ksS rfl (ksS rfl (ksS rfl (ksS (congrArg (fun z => some (Value.int z)) (nI_pred _).symm) (ksS rfl (ks0 ksN)))))) | exact KV.loc (ih _ _ hG (E.si rfl) (kPi.push hP.2.2)) (ksS rfl (ksS rfl (ksS rfl (ksS (congrArg (fun z => some (Value.int z)) (nI_pred _).symm) (ksS rfl (ks0 ksN))))))
        · exact absurd (by decide) h16
      · have hG : kGv (fun k => g (468 + 66 * t + 3 + k)) a b c d (i + 1) = d :: L := by rw [kGv, hL]; show kGs _ _ _ _ (g (468 + 66 * t + 3 + i)) _ = _; rw [hc]; rfl
        rw [hc, show kEnc 10003 = -4 from by decide]
        refine kv_iload dX9_comesTo_23 rfl ?_
        refine kv_if_lt dX9_comesTo_25 47 (by decide) (fun h21 => ?_) (fun h21 => ?_)
        · refine kv_iload dX9_comesTo_47 rfl ?_
          refine kv_if_ge dX9_comesTo_49 92 (by decide) (fun h22 => ?_) (fun h22 => ?_)
          · exact absurd h22 (by decide)
          · refine kv_iload dX9_comesTo_52 rfl ?_
            refine kv_sipush dX9_comesTo_54 (-1000) kz_m1000 ?_
            refine kv_icmp_le dX9_comesTo_57 92 (by decide) (fun h23 => ?_) (fun h23 => ?_)
            · exact absurd h23 (by decide)
            · refine kv_iconst dX9_comesTo_60 (-1) ki_m1 ?_
              refine kv_iload dX9_comesTo_61 rfl ?_
              refine kv_isub dX9_comesTo_63 ?_
              refine kv_aload_n dX9_comesTo_64 rfl ?_
              refine kw_len (t := 0) dX9_comesTo_65 hu2 (by first | rfl | assumption) rfl rfl ?_
              refine kv_icmp_ge dX9_comesTo_66 92 (by decide) (fun h24 => ?_) (fun h24 => ?_)
              · exact absurd h24 (by decide)
              · refine kv_iload_n dX9_comesTo_69 rfl ?_
                refine kv_iconst dX9_comesTo_70 1 ki_1 ?_
                refine kv_iadd dX9_comesTo_71 ?_
                rw [kn_pm]
                refine kv_aload_n dX9_comesTo_72 rfl ?_
                refine kw_len (t := 0) dX9_comesTo_73 hu2 (by first | rfl | assumption) rfl rfl ?_
                refine kv_icmp_ge dX9_comesTo_74 92 (by decide) (fun h25 => ?_) (fun h25 => ?_)
                · exact absurd h25 (nI_ge (b := 60) (by omega) (by omega))
                · refine kv_iinc (ls2 := [_, _, _, _, _, _]) dX9_comesTo_77 (nI (L.length)) rfl (kn_pi _) rfl rfl rfl rfl ?_
                  refine kv_aload_n dX9_comesTo_80 rfl ?_
                  refine kv_iload_n dX9_comesTo_81 rfl ?_
                  refine kv_aload_n dX9_comesTo_82 rfl ?_
                  refine kv_iconst dX9_comesTo_83 (-1) ki_m1 ?_
                  refine kv_iload dX9_comesTo_84 rfl ?_
                  refine kv_isub dX9_comesTo_86 ?_
                  refine kw_il dX9_comesTo_87 hu2 (by first | rfl | assumption) (3) (by decide) (by decide) rfl ?_
                  rw [E.2.2.1 386 3 (by unfold kS7; omega), hd]
                  refine kw_is dX9_comesTo_88 hu2 (by first | rfl | assumption) (L.length) rfl (by omega) rfl ?_
                  refine kv_goto dX9_comesTo_89 179 (by decide) ?_
                  refine kv_iinc (ls2 := [_, _, _, _, _, _]) dX9_comesTo_179 (nI (i + 1)) rfl (kv_inc1 i) rfl rfl rfl rfl ?_
                  refine kv_goto dX9_comesTo_182 5 (by decide) ?_
                  first | exact KV.loc (ih _ _ hG (E.si rfl) hP.push) (ksS rfl (ksS rfl (ksS rfl (ksS (congrArg (fun z => some (Value.int z)) (nI_pred _).symm) (ksS rfl (ks0 ksN)))))) | exact KV.loc (ih _ _ hG (E.si rfl) (kPi.push hP.2)) (ksS rfl (ksS rfl (ksS rfl (ksS (congrArg (fun z => some (Value.int z)) (nI_pred _).symm) (ksS rfl (ks0 ksN)))))) | exact KV.loc (ih _ _ hG (E.si rfl) (kPi.push hP.2.2)) (ksS rfl (ksS rfl (ksS rfl (ksS (congrArg (fun z => some (Value.int z)) (nI_pred _).symm) (ksS rfl (ks0 ksN))))))
        · exact absurd (by decide) h21
      · obtain ⟨y, t2, rfl⟩ := hone (Or.inl hc)
        have hy : v.2.1 387 t2.length = y := hP.1
        have hG : kGv (fun k => g (468 + 66 * t + 3 + k)) a b c d (i + 1) = (if y = 0 then 1 else 0) :: t2 := by rw [kGv, hL]; show kGs _ _ _ _ (g (468 + 66 * t + 3 + i)) _ = _; rw [hc]; rfl
        rw [hc, show kEnc 20011 = -1033 from by decide, show nI (y :: t2).length - 1 = nI t2.length from nI_pred _]
        refine kv_iload dX9_comesTo_23 rfl ?_
        refine kv_if_lt dX9_comesTo_25 47 (by decide) (fun h26 => ?_) (fun h26 => ?_)
        · refine kv_iload dX9_comesTo_47 rfl ?_
          refine kv_if_ge dX9_comesTo_49 92 (by decide) (fun h27 => ?_) (fun h27 => ?_)
          · exact absurd h27 (by decide)
          · refine kv_iload dX9_comesTo_52 rfl ?_
            refine kv_sipush dX9_comesTo_54 (-1000) kz_m1000 ?_
            refine kv_icmp_le dX9_comesTo_57 92 (by decide) (fun h28 => ?_) (fun h28 => ?_)
            · refine kv_iload dX9_comesTo_92 rfl ?_
              refine kv_sipush dX9_comesTo_94 (-1033) kz_m1033 ?_
              refine kv_icmp_ne dX9_comesTo_97 121 (by decide) (fun h29 => ?_) (fun h29 => ?_)
              · exact absurd rfl h29
              · refine kv_iload_n dX9_comesTo_100 rfl ?_
                refine kv_if_lt dX9_comesTo_101 121 (by decide) (fun h30 => ?_) (fun h30 => ?_)
                · exact absurd h30 (nI_pos (by simp at hl; omega))
                · refine kv_aload_n dX9_comesTo_104 rfl ?_
                  refine kv_iload_n dX9_comesTo_105 rfl ?_
                  refine kv_aload_n dX9_comesTo_106 rfl ?_
                  refine kv_iload_n dX9_comesTo_107 rfl ?_
                  refine kw_il dX9_comesTo_108 hu2 (by first | rfl | assumption) (t2.length) rfl (by simp at hl; omega) rfl ?_
                  rw [hy]
                  refine kv_if_ne dX9_comesTo_109 116 (by decide) (fun h31 => ?_) (fun h31 => ?_)
                  · have hG2 : kGv (fun k => g (468 + 66 * t + 3 + k)) a b c d (i + 1) = 0 :: t2 := by rw [hG, if_neg h31]
                    clear hG
                    have hG := hG2
                    refine kv_iconst dX9_comesTo_116 0 ki_0 ?_
                    refine kw_is dX9_comesTo_117 hu2 (by first | rfl | assumption) (t2.length) rfl (by simp at hl; omega) rfl ?_
                    refine kv_goto dX9_comesTo_118 179 (by decide) ?_
                    refine kv_iinc (ls2 := [_, _, _, _, _, _]) dX9_comesTo_179 (nI (i + 1)) rfl (kv_inc1 i) rfl rfl rfl rfl ?_
                    refine kv_goto dX9_comesTo_182 5 (by decide) ?_
                    first | exact KV.loc (ih _ _ hG (E.si rfl) hP.push) (ksS rfl (ksS rfl (ksS rfl (ksS (congrArg (fun z => some (Value.int z)) (nI_pred _).symm) (ksS rfl (ks0 ksN)))))) | exact KV.loc (ih _ _ hG (E.si rfl) (kPi.push hP.2)) (ksS rfl (ksS rfl (ksS rfl (ksS (congrArg (fun z => some (Value.int z)) (nI_pred _).symm) (ksS rfl (ks0 ksN)))))) | exact KV.loc (ih _ _ hG (E.si rfl) (kPi.push hP.2.2)) (ksS rfl (ksS rfl (ksS rfl (ksS (congrArg (fun z => some (Value.int z)) (nI_pred _).symm) (ksS rfl (ks0 ksN))))))
                  · have hG2 : kGv (fun k => g (468 + 66 * t + 3 + k)) a b c d (i + 1) = 1 :: t2 := by rw [hG, if_pos h31]
                    clear hG
                    have hG := hG2
                    refine kv_iconst dX9_comesTo_112 1 ki_1 ?_
                    refine kv_goto dX9_comesTo_113 117 (by decide) ?_
                    refine kw_is dX9_comesTo_117 hu2 (by first | rfl | assumption) (t2.length) rfl (by simp at hl; omega) rfl ?_
                    refine kv_goto dX9_comesTo_118 179 (by decide) ?_
                    refine kv_iinc (ls2 := [_, _, _, _, _, _]) dX9_comesTo_179 (nI (i + 1)) rfl (kv_inc1 i) rfl rfl rfl rfl ?_
                    refine kv_goto dX9_comesTo_182 5 (by decide) ?_
                    first | exact KV.loc (ih _ _ hG (E.si rfl) hP.push) (ksS rfl (ksS rfl (ksS rfl (ksS (congrArg (fun z => some (Value.int z)) (nI_pred _).symm) (ksS rfl (ks0 ksN)))))) | exact KV.loc (ih _ _ hG (E.si rfl) (kPi.push hP.2)) (ksS rfl (ksS rfl (ksS rfl (ksS (congrArg (fun z => some (Value.int z)) (nI_pred _).symm) (ksS rfl (ks0 ksN)))))) | exact KV.loc (ih _ _ hG (E.si rfl) (kPi.push hP.2.2)) (ksS rfl (ksS rfl (ksS rfl (ksS (congrArg (fun z => some (Value.int z)) (nI_pred _).symm) (ksS rfl (ks0 ksN))))))
            · exact absurd (by decide) h28
        · exact absurd (by decide) h26
      · obtain ⟨y, t2, rfl⟩ := hone (Or.inr hc)
        have hy : v.2.1 387 t2.length = y := hP.1
        have hG : kGv (fun k => g (468 + 66 * t + 3 + k)) a b c d (i + 1) = (-y) :: t2 := by rw [kGv, hL]; show kGs _ _ _ _ (g (468 + 66 * t + 3 + i)) _ = _; rw [hc]; rfl
        rw [hc, show kEnc 20012 = -1110 from by decide, show nI (y :: t2).length - 1 = nI t2.length from nI_pred _]
        refine kv_iload dX9_comesTo_23 rfl ?_
        refine kv_if_lt dX9_comesTo_25 47 (by decide) (fun h32 => ?_) (fun h32 => ?_)
        · refine kv_iload dX9_comesTo_47 rfl ?_
          refine kv_if_ge dX9_comesTo_49 92 (by decide) (fun h33 => ?_) (fun h33 => ?_)
          · exact absurd h33 (by decide)
          · refine kv_iload dX9_comesTo_52 rfl ?_
            refine kv_sipush dX9_comesTo_54 (-1000) kz_m1000 ?_
            refine kv_icmp_le dX9_comesTo_57 92 (by decide) (fun h34 => ?_) (fun h34 => ?_)
            · refine kv_iload dX9_comesTo_92 rfl ?_
              refine kv_sipush dX9_comesTo_94 (-1033) kz_m1033 ?_
              refine kv_icmp_ne dX9_comesTo_97 121 (by decide) (fun h35 => ?_) (fun h35 => ?_)
              · refine kv_iload dX9_comesTo_121 rfl ?_
                refine kv_sipush dX9_comesTo_123 (-1110) kz_m1110 ?_
                refine kv_icmp_ne dX9_comesTo_126 143 (by decide) (fun h36 => ?_) (fun h36 => ?_)
                · exact absurd rfl h36
                · refine kv_iload_n dX9_comesTo_129 rfl ?_
                  refine kv_if_lt dX9_comesTo_130 143 (by decide) (fun h37 => ?_) (fun h37 => ?_)
                  · exact absurd h37 (nI_pos (by simp at hl; omega))
                  · refine kv_aload_n dX9_comesTo_133 rfl ?_
                    refine kv_iload_n dX9_comesTo_134 rfl ?_
                    refine kv_aload_n dX9_comesTo_135 rfl ?_
                    refine kv_iload_n dX9_comesTo_136 rfl ?_
                    refine kw_il dX9_comesTo_137 hu2 (by first | rfl | assumption) (t2.length) rfl (by simp at hl; omega) rfl ?_
                    rw [hy]
                    refine kv_ineg dX9_comesTo_138 ?_
                    refine kw_is dX9_comesTo_139 hu2 (by first | rfl | assumption) (t2.length) rfl (by simp at hl; omega) rfl ?_
                    refine kv_goto dX9_comesTo_140 179 (by decide) ?_
                    refine kv_iinc (ls2 := [_, _, _, _, _, _]) dX9_comesTo_179 (nI (i + 1)) rfl (kv_inc1 i) rfl rfl rfl rfl ?_
                    refine kv_goto dX9_comesTo_182 5 (by decide) ?_
                    first | exact KV.loc (ih _ _ hG (E.si rfl) hP.push) (ksS rfl (ksS rfl (ksS rfl (ksS (congrArg (fun z => some (Value.int z)) (nI_pred _).symm) (ksS rfl (ks0 ksN)))))) | exact KV.loc (ih _ _ hG (E.si rfl) (kPi.push hP.2)) (ksS rfl (ksS rfl (ksS rfl (ksS (congrArg (fun z => some (Value.int z)) (nI_pred _).symm) (ksS rfl (ks0 ksN)))))) | exact KV.loc (ih _ _ hG (E.si rfl) (kPi.push hP.2.2)) (ksS rfl (ksS rfl (ksS rfl (ksS (congrArg (fun z => some (Value.int z)) (nI_pred _).symm) (ksS rfl (ks0 ksN))))))
              · exact absurd h35 (by decide)
            · exact absurd (by decide) h34
        · exact absurd (by decide) h32
      · obtain ⟨y, z, t2, rfl⟩ := htwo (by rw [hc]; decide) (by rw [hc]; decide) (by rw [hc]; decide)
        have hy : v.2.1 387 (t2.length + 1) = y := hP.1
        have hz : v.2.1 387 t2.length = z := hP.2.1
        have hG : kGv (fun k => g (468 + 66 * t + 3 + k)) a b c d (i + 1) = kDone 20000 z y :: t2 := by rw [kGv, hL]; show kGs _ _ _ _ (g (468 + 66 * t + 3 + i)) _ = _; rw [hc]; rfl
        rw [hc, show kEnc 20000 = -1124 from by decide, show nI (y :: z :: t2).length - 1 = nI (t2.length + 1) from nI_pred _]
        refine kv_iload dX9_comesTo_23 rfl ?_
        refine kv_if_lt dX9_comesTo_25 47 (by decide) (fun h38 => ?_) (fun h38 => ?_)
        · refine kv_iload dX9_comesTo_47 rfl ?_
          refine kv_if_ge dX9_comesTo_49 92 (by decide) (fun h39 => ?_) (fun h39 => ?_)
          · exact absurd h39 (by decide)
          · refine kv_iload dX9_comesTo_52 rfl ?_
            refine kv_sipush dX9_comesTo_54 (-1000) kz_m1000 ?_
            refine kv_icmp_le dX9_comesTo_57 92 (by decide) (fun h40 => ?_) (fun h40 => ?_)
            · refine kv_iload dX9_comesTo_92 rfl ?_
              refine kv_sipush dX9_comesTo_94 (-1033) kz_m1033 ?_
              refine kv_icmp_ne dX9_comesTo_97 121 (by decide) (fun h41 => ?_) (fun h41 => ?_)
              · refine kv_iload dX9_comesTo_121 rfl ?_
                refine kv_sipush dX9_comesTo_123 (-1110) kz_m1110 ?_
                refine kv_icmp_ne dX9_comesTo_126 143 (by decide) (fun h42 => ?_) (fun h42 => ?_)
                · refine kv_iload dX9_comesTo_143 rfl ?_
                  refine kv_sipush dX9_comesTo_145 (-1000) kz_m1000 ?_
                  refine kv_icmp_ge dX9_comesTo_148 179 (by decide) (fun h43 => ?_) (fun h43 => ?_)
                  · exact absurd h43 (by decide)
                  · refine kv_iload_n dX9_comesTo_151 rfl ?_
                    refine kv_iconst dX9_comesTo_152 1 ki_1 ?_
                    refine kv_icmp_lt dX9_comesTo_153 179 (by decide) (fun h44 => ?_) (fun h44 => ?_)
                    · exact absurd h44 (nI_nlt (a := t2.length + 1) (b := 1) (by omega) (by simp at hl; omega))
                    · refine kv_iinc (ls2 := [_, _, _, _, _, _]) dX9_comesTo_156 (nI (t2.length)) rfl (pk_m1 t2.length) rfl rfl rfl rfl ?_
                      refine kv_aload_n dX9_comesTo_159 rfl ?_
                      refine kv_iload_n dX9_comesTo_160 rfl ?_
                      refine kv_sipush dX9_comesTo_161 (-1000) kz_m1000 ?_
                      refine kv_iload dX9_comesTo_164 rfl ?_
                      refine kv_isub dX9_comesTo_166 ?_
                      refine kv_aload_n dX9_comesTo_167 rfl ?_
                      refine kv_iload_n dX9_comesTo_168 rfl ?_
                      refine kw_il dX9_comesTo_169 hu2 (by first | rfl | assumption) (t2.length) rfl (by simp at hl; omega) rfl ?_
                      rw [hz]
                      refine kv_aload_n dX9_comesTo_170 rfl ?_
                      refine kv_iload_n dX9_comesTo_171 rfl ?_
                      refine kv_iconst dX9_comesTo_172 1 ki_1 ?_
                      refine kv_iadd dX9_comesTo_173 ?_
                      refine kw_il dX9_comesTo_174 hu2 (by first | rfl | assumption) (t2.length + 1) (nI_1 _) (by simp at hl; omega) rfl ?_
                      rw [hy]
                      rw [show (-1000 - (-1124) : Int32) = kSg 20000 from by decide]
                      refine kw_Si [_, _, _] mX9_join dX9_comesTo_175 lX9_31 wX9_join rfl rfl rfl (qX9_join hu2 20000 z y (by simp)) (by decide) ?_
                      refine kw_is dX9_comesTo_178 hu2 (by first | rfl | assumption) (t2.length) rfl (by simp at hl; omega) rfl ?_
                      refine kv_iinc (ls2 := [_, _, _, _, _, _]) dX9_comesTo_179 (nI (i + 1)) rfl (kv_inc1 i) rfl rfl rfl rfl ?_
                      refine kv_goto dX9_comesTo_182 5 (by decide) ?_
                      first | exact KV.loc (ih _ _ hG (E.si rfl) hP.push) (ksS rfl (ksS rfl (ksS rfl (ksS (congrArg (fun z => some (Value.int z)) (nI_pred _).symm) (ksS rfl (ks0 ksN)))))) | exact KV.loc (ih _ _ hG (E.si rfl) (kPi.push hP.2)) (ksS rfl (ksS rfl (ksS rfl (ksS (congrArg (fun z => some (Value.int z)) (nI_pred _).symm) (ksS rfl (ks0 ksN)))))) | exact KV.loc (ih _ _ hG (E.si rfl) (kPi.push hP.2.2)) (ksS rfl (ksS rfl (ksS rfl (ksS (congrArg (fun z => some (Value.int z)) (nI_pred _).symm) (ksS rfl (ks0 ksN))))))
                · exact absurd h42 (by decide)
              · exact absurd h41 (by decide)
            · exact absurd (by decide) h40
        · exact absurd (by decide) h38
      · obtain ⟨y, z, t2, rfl⟩ := htwo (by rw [hc]; decide) (by rw [hc]; decide) (by rw [hc]; decide)
        have hy : v.2.1 387 (t2.length + 1) = y := hP.1
        have hz : v.2.1 387 t2.length = z := hP.2.1
        have hG : kGv (fun k => g (468 + 66 * t + 3 + k)) a b c d (i + 1) = kDone 20001 z y :: t2 := by rw [kGv, hL]; show kGs _ _ _ _ (g (468 + 66 * t + 3 + i)) _ = _; rw [hc]; rfl
        rw [hc, show kEnc 20001 = -1038 from by decide, show nI (y :: z :: t2).length - 1 = nI (t2.length + 1) from nI_pred _]
        refine kv_iload dX9_comesTo_23 rfl ?_
        refine kv_if_lt dX9_comesTo_25 47 (by decide) (fun h45 => ?_) (fun h45 => ?_)
        · refine kv_iload dX9_comesTo_47 rfl ?_
          refine kv_if_ge dX9_comesTo_49 92 (by decide) (fun h46 => ?_) (fun h46 => ?_)
          · exact absurd h46 (by decide)
          · refine kv_iload dX9_comesTo_52 rfl ?_
            refine kv_sipush dX9_comesTo_54 (-1000) kz_m1000 ?_
            refine kv_icmp_le dX9_comesTo_57 92 (by decide) (fun h47 => ?_) (fun h47 => ?_)
            · refine kv_iload dX9_comesTo_92 rfl ?_
              refine kv_sipush dX9_comesTo_94 (-1033) kz_m1033 ?_
              refine kv_icmp_ne dX9_comesTo_97 121 (by decide) (fun h48 => ?_) (fun h48 => ?_)
              · refine kv_iload dX9_comesTo_121 rfl ?_
                refine kv_sipush dX9_comesTo_123 (-1110) kz_m1110 ?_
                refine kv_icmp_ne dX9_comesTo_126 143 (by decide) (fun h49 => ?_) (fun h49 => ?_)
                · refine kv_iload dX9_comesTo_143 rfl ?_
                  refine kv_sipush dX9_comesTo_145 (-1000) kz_m1000 ?_
                  refine kv_icmp_ge dX9_comesTo_148 179 (by decide) (fun h50 => ?_) (fun h50 => ?_)
                  · exact absurd h50 (by decide)
                  · refine kv_iload_n dX9_comesTo_151 rfl ?_
                    refine kv_iconst dX9_comesTo_152 1 ki_1 ?_
                    refine kv_icmp_lt dX9_comesTo_153 179 (by decide) (fun h51 => ?_) (fun h51 => ?_)
                    · exact absurd h51 (nI_nlt (a := t2.length + 1) (b := 1) (by omega) (by simp at hl; omega))
                    · refine kv_iinc (ls2 := [_, _, _, _, _, _]) dX9_comesTo_156 (nI (t2.length)) rfl (pk_m1 t2.length) rfl rfl rfl rfl ?_
                      refine kv_aload_n dX9_comesTo_159 rfl ?_
                      refine kv_iload_n dX9_comesTo_160 rfl ?_
                      refine kv_sipush dX9_comesTo_161 (-1000) kz_m1000 ?_
                      refine kv_iload dX9_comesTo_164 rfl ?_
                      refine kv_isub dX9_comesTo_166 ?_
                      refine kv_aload_n dX9_comesTo_167 rfl ?_
                      refine kv_iload_n dX9_comesTo_168 rfl ?_
                      refine kw_il dX9_comesTo_169 hu2 (by first | rfl | assumption) (t2.length) rfl (by simp at hl; omega) rfl ?_
                      rw [hz]
                      refine kv_aload_n dX9_comesTo_170 rfl ?_
                      refine kv_iload_n dX9_comesTo_171 rfl ?_
                      refine kv_iconst dX9_comesTo_172 1 ki_1 ?_
                      refine kv_iadd dX9_comesTo_173 ?_
                      refine kw_il dX9_comesTo_174 hu2 (by first | rfl | assumption) (t2.length + 1) (nI_1 _) (by simp at hl; omega) rfl ?_
                      rw [hy]
                      rw [show (-1000 - (-1038) : Int32) = kSg 20001 from by decide]
                      refine kw_Si [_, _, _] mX9_join dX9_comesTo_175 lX9_31 wX9_join rfl rfl rfl (qX9_join hu2 20001 z y (by simp)) (by decide) ?_
                      refine kw_is dX9_comesTo_178 hu2 (by first | rfl | assumption) (t2.length) rfl (by simp at hl; omega) rfl ?_
                      refine kv_iinc (ls2 := [_, _, _, _, _, _]) dX9_comesTo_179 (nI (i + 1)) rfl (kv_inc1 i) rfl rfl rfl rfl ?_
                      refine kv_goto dX9_comesTo_182 5 (by decide) ?_
                      first | exact KV.loc (ih _ _ hG (E.si rfl) hP.push) (ksS rfl (ksS rfl (ksS rfl (ksS (congrArg (fun z => some (Value.int z)) (nI_pred _).symm) (ksS rfl (ks0 ksN)))))) | exact KV.loc (ih _ _ hG (E.si rfl) (kPi.push hP.2)) (ksS rfl (ksS rfl (ksS rfl (ksS (congrArg (fun z => some (Value.int z)) (nI_pred _).symm) (ksS rfl (ks0 ksN)))))) | exact KV.loc (ih _ _ hG (E.si rfl) (kPi.push hP.2.2)) (ksS rfl (ksS rfl (ksS rfl (ksS (congrArg (fun z => some (Value.int z)) (nI_pred _).symm) (ksS rfl (ks0 ksN))))))
                · exact absurd h49 (by decide)
              · exact absurd h48 (by decide)
            · exact absurd (by decide) h47
        · exact absurd (by decide) h45
      · obtain ⟨y, z, t2, rfl⟩ := htwo (by rw [hc]; decide) (by rw [hc]; decide) (by rw [hc]; decide)
        have hy : v.2.1 387 (t2.length + 1) = y := hP.1
        have hz : v.2.1 387 t2.length = z := hP.2.1
        have hG : kGv (fun k => g (468 + 66 * t + 3 + k)) a b c d (i + 1) = kDone 20002 z y :: t2 := by rw [kGv, hL]; show kGs _ _ _ _ (g (468 + 66 * t + 3 + i)) _ = _; rw [hc]; rfl
        rw [hc, show kEnc 20002 = -1060 from by decide, show nI (y :: z :: t2).length - 1 = nI (t2.length + 1) from nI_pred _]
        refine kv_iload dX9_comesTo_23 rfl ?_
        refine kv_if_lt dX9_comesTo_25 47 (by decide) (fun h52 => ?_) (fun h52 => ?_)
        · refine kv_iload dX9_comesTo_47 rfl ?_
          refine kv_if_ge dX9_comesTo_49 92 (by decide) (fun h53 => ?_) (fun h53 => ?_)
          · exact absurd h53 (by decide)
          · refine kv_iload dX9_comesTo_52 rfl ?_
            refine kv_sipush dX9_comesTo_54 (-1000) kz_m1000 ?_
            refine kv_icmp_le dX9_comesTo_57 92 (by decide) (fun h54 => ?_) (fun h54 => ?_)
            · refine kv_iload dX9_comesTo_92 rfl ?_
              refine kv_sipush dX9_comesTo_94 (-1033) kz_m1033 ?_
              refine kv_icmp_ne dX9_comesTo_97 121 (by decide) (fun h55 => ?_) (fun h55 => ?_)
              · refine kv_iload dX9_comesTo_121 rfl ?_
                refine kv_sipush dX9_comesTo_123 (-1110) kz_m1110 ?_
                refine kv_icmp_ne dX9_comesTo_126 143 (by decide) (fun h56 => ?_) (fun h56 => ?_)
                · refine kv_iload dX9_comesTo_143 rfl ?_
                  refine kv_sipush dX9_comesTo_145 (-1000) kz_m1000 ?_
                  refine kv_icmp_ge dX9_comesTo_148 179 (by decide) (fun h57 => ?_) (fun h57 => ?_)
                  · exact absurd h57 (by decide)
                  · refine kv_iload_n dX9_comesTo_151 rfl ?_
                    refine kv_iconst dX9_comesTo_152 1 ki_1 ?_
                    refine kv_icmp_lt dX9_comesTo_153 179 (by decide) (fun h58 => ?_) (fun h58 => ?_)
                    · exact absurd h58 (nI_nlt (a := t2.length + 1) (b := 1) (by omega) (by simp at hl; omega))
                    · refine kv_iinc (ls2 := [_, _, _, _, _, _]) dX9_comesTo_156 (nI (t2.length)) rfl (pk_m1 t2.length) rfl rfl rfl rfl ?_
                      refine kv_aload_n dX9_comesTo_159 rfl ?_
                      refine kv_iload_n dX9_comesTo_160 rfl ?_
                      refine kv_sipush dX9_comesTo_161 (-1000) kz_m1000 ?_
                      refine kv_iload dX9_comesTo_164 rfl ?_
                      refine kv_isub dX9_comesTo_166 ?_
                      refine kv_aload_n dX9_comesTo_167 rfl ?_
                      refine kv_iload_n dX9_comesTo_168 rfl ?_
                      refine kw_il dX9_comesTo_169 hu2 (by first | rfl | assumption) (t2.length) rfl (by simp at hl; omega) rfl ?_
                      rw [hz]
                      refine kv_aload_n dX9_comesTo_170 rfl ?_
                      refine kv_iload_n dX9_comesTo_171 rfl ?_
                      refine kv_iconst dX9_comesTo_172 1 ki_1 ?_
                      refine kv_iadd dX9_comesTo_173 ?_
                      refine kw_il dX9_comesTo_174 hu2 (by first | rfl | assumption) (t2.length + 1) (nI_1 _) (by simp at hl; omega) rfl ?_
                      rw [hy]
                      rw [show (-1000 - (-1060) : Int32) = kSg 20002 from by decide]
                      refine kw_Si [_, _, _] mX9_join dX9_comesTo_175 lX9_31 wX9_join rfl rfl rfl (qX9_join hu2 20002 z y (by simp)) (by decide) ?_
                      refine kw_is dX9_comesTo_178 hu2 (by first | rfl | assumption) (t2.length) rfl (by simp at hl; omega) rfl ?_
                      refine kv_iinc (ls2 := [_, _, _, _, _, _]) dX9_comesTo_179 (nI (i + 1)) rfl (kv_inc1 i) rfl rfl rfl rfl ?_
                      refine kv_goto dX9_comesTo_182 5 (by decide) ?_
                      first | exact KV.loc (ih _ _ hG (E.si rfl) hP.push) (ksS rfl (ksS rfl (ksS rfl (ksS (congrArg (fun z => some (Value.int z)) (nI_pred _).symm) (ksS rfl (ks0 ksN)))))) | exact KV.loc (ih _ _ hG (E.si rfl) (kPi.push hP.2)) (ksS rfl (ksS rfl (ksS rfl (ksS (congrArg (fun z => some (Value.int z)) (nI_pred _).symm) (ksS rfl (ks0 ksN)))))) | exact KV.loc (ih _ _ hG (E.si rfl) (kPi.push hP.2.2)) (ksS rfl (ksS rfl (ksS rfl (ksS (congrArg (fun z => some (Value.int z)) (nI_pred _).symm) (ksS rfl (ks0 ksN))))))
                · exact absurd h56 (by decide)
              · exact absurd h55 (by decide)
            · exact absurd (by decide) h54
        · exact absurd (by decide) h52
      · obtain ⟨y, z, t2, rfl⟩ := htwo (by rw [hc]; decide) (by rw [hc]; decide) (by rw [hc]; decide)
        have hy : v.2.1 387 (t2.length + 1) = y := hP.1
        have hz : v.2.1 387 t2.length = z := hP.2.1
        have hG : kGv (fun k => g (468 + 66 * t + 3 + k)) a b c d (i + 1) = kDone 20003 z y :: t2 := by rw [kGv, hL]; show kGs _ _ _ _ (g (468 + 66 * t + 3 + i)) _ = _; rw [hc]; rfl
        rw [hc, show kEnc 20003 = -1061 from by decide, show nI (y :: z :: t2).length - 1 = nI (t2.length + 1) from nI_pred _]
        refine kv_iload dX9_comesTo_23 rfl ?_
        refine kv_if_lt dX9_comesTo_25 47 (by decide) (fun h59 => ?_) (fun h59 => ?_)
        · refine kv_iload dX9_comesTo_47 rfl ?_
          refine kv_if_ge dX9_comesTo_49 92 (by decide) (fun h60 => ?_) (fun h60 => ?_)
          · exact absurd h60 (by decide)
          · refine kv_iload dX9_comesTo_52 rfl ?_
            refine kv_sipush dX9_comesTo_54 (-1000) kz_m1000 ?_
            refine kv_icmp_le dX9_comesTo_57 92 (by decide) (fun h61 => ?_) (fun h61 => ?_)
            · refine kv_iload dX9_comesTo_92 rfl ?_
              refine kv_sipush dX9_comesTo_94 (-1033) kz_m1033 ?_
              refine kv_icmp_ne dX9_comesTo_97 121 (by decide) (fun h62 => ?_) (fun h62 => ?_)
              · refine kv_iload dX9_comesTo_121 rfl ?_
                refine kv_sipush dX9_comesTo_123 (-1110) kz_m1110 ?_
                refine kv_icmp_ne dX9_comesTo_126 143 (by decide) (fun h63 => ?_) (fun h63 => ?_)
                · refine kv_iload dX9_comesTo_143 rfl ?_
                  refine kv_sipush dX9_comesTo_145 (-1000) kz_m1000 ?_
                  refine kv_icmp_ge dX9_comesTo_148 179 (by decide) (fun h64 => ?_) (fun h64 => ?_)
                  · exact absurd h64 (by decide)
                  · refine kv_iload_n dX9_comesTo_151 rfl ?_
                    refine kv_iconst dX9_comesTo_152 1 ki_1 ?_
                    refine kv_icmp_lt dX9_comesTo_153 179 (by decide) (fun h65 => ?_) (fun h65 => ?_)
                    · exact absurd h65 (nI_nlt (a := t2.length + 1) (b := 1) (by omega) (by simp at hl; omega))
                    · refine kv_iinc (ls2 := [_, _, _, _, _, _]) dX9_comesTo_156 (nI (t2.length)) rfl (pk_m1 t2.length) rfl rfl rfl rfl ?_
                      refine kv_aload_n dX9_comesTo_159 rfl ?_
                      refine kv_iload_n dX9_comesTo_160 rfl ?_
                      refine kv_sipush dX9_comesTo_161 (-1000) kz_m1000 ?_
                      refine kv_iload dX9_comesTo_164 rfl ?_
                      refine kv_isub dX9_comesTo_166 ?_
                      refine kv_aload_n dX9_comesTo_167 rfl ?_
                      refine kv_iload_n dX9_comesTo_168 rfl ?_
                      refine kw_il dX9_comesTo_169 hu2 (by first | rfl | assumption) (t2.length) rfl (by simp at hl; omega) rfl ?_
                      rw [hz]
                      refine kv_aload_n dX9_comesTo_170 rfl ?_
                      refine kv_iload_n dX9_comesTo_171 rfl ?_
                      refine kv_iconst dX9_comesTo_172 1 ki_1 ?_
                      refine kv_iadd dX9_comesTo_173 ?_
                      refine kw_il dX9_comesTo_174 hu2 (by first | rfl | assumption) (t2.length + 1) (nI_1 _) (by simp at hl; omega) rfl ?_
                      rw [hy]
                      rw [show (-1000 - (-1061) : Int32) = kSg 20003 from by decide]
                      refine kw_Si [_, _, _] mX9_join dX9_comesTo_175 lX9_31 wX9_join rfl rfl rfl (qX9_join hu2 20003 z y (by simp)) (by decide) ?_
                      refine kw_is dX9_comesTo_178 hu2 (by first | rfl | assumption) (t2.length) rfl (by simp at hl; omega) rfl ?_
                      refine kv_iinc (ls2 := [_, _, _, _, _, _]) dX9_comesTo_179 (nI (i + 1)) rfl (kv_inc1 i) rfl rfl rfl rfl ?_
                      refine kv_goto dX9_comesTo_182 5 (by decide) ?_
                      first | exact KV.loc (ih _ _ hG (E.si rfl) hP.push) (ksS rfl (ksS rfl (ksS rfl (ksS (congrArg (fun z => some (Value.int z)) (nI_pred _).symm) (ksS rfl (ks0 ksN)))))) | exact KV.loc (ih _ _ hG (E.si rfl) (kPi.push hP.2)) (ksS rfl (ksS rfl (ksS rfl (ksS (congrArg (fun z => some (Value.int z)) (nI_pred _).symm) (ksS rfl (ks0 ksN)))))) | exact KV.loc (ih _ _ hG (E.si rfl) (kPi.push hP.2.2)) (ksS rfl (ksS rfl (ksS rfl (ksS (congrArg (fun z => some (Value.int z)) (nI_pred _).symm) (ksS rfl (ks0 ksN))))))
                · exact absurd h63 (by decide)
              · exact absurd h62 (by decide)
            · exact absurd (by decide) h61
        · exact absurd (by decide) h59
      · obtain ⟨y, z, t2, rfl⟩ := htwo (by rw [hc]; decide) (by rw [hc]; decide) (by rw [hc]; decide)
        have hy : v.2.1 387 (t2.length + 1) = y := hP.1
        have hz : v.2.1 387 t2.length = z := hP.2.1
        have hG : kGv (fun k => g (468 + 66 * t + 3 + k)) a b c d (i + 1) = kDone 20004 z y :: t2 := by rw [kGv, hL]; show kGs _ _ _ _ (g (468 + 66 * t + 3 + i)) _ = _; rw [hc]; rfl
        rw [hc, show kEnc 20004 = -1062 from by decide, show nI (y :: z :: t2).length - 1 = nI (t2.length + 1) from nI_pred _]
        refine kv_iload dX9_comesTo_23 rfl ?_
        refine kv_if_lt dX9_comesTo_25 47 (by decide) (fun h66 => ?_) (fun h66 => ?_)
        · refine kv_iload dX9_comesTo_47 rfl ?_
          refine kv_if_ge dX9_comesTo_49 92 (by decide) (fun h67 => ?_) (fun h67 => ?_)
          · exact absurd h67 (by decide)
          · refine kv_iload dX9_comesTo_52 rfl ?_
            refine kv_sipush dX9_comesTo_54 (-1000) kz_m1000 ?_
            refine kv_icmp_le dX9_comesTo_57 92 (by decide) (fun h68 => ?_) (fun h68 => ?_)
            · refine kv_iload dX9_comesTo_92 rfl ?_
              refine kv_sipush dX9_comesTo_94 (-1033) kz_m1033 ?_
              refine kv_icmp_ne dX9_comesTo_97 121 (by decide) (fun h69 => ?_) (fun h69 => ?_)
              · refine kv_iload dX9_comesTo_121 rfl ?_
                refine kv_sipush dX9_comesTo_123 (-1110) kz_m1110 ?_
                refine kv_icmp_ne dX9_comesTo_126 143 (by decide) (fun h70 => ?_) (fun h70 => ?_)
                · refine kv_iload dX9_comesTo_143 rfl ?_
                  refine kv_sipush dX9_comesTo_145 (-1000) kz_m1000 ?_
                  refine kv_icmp_ge dX9_comesTo_148 179 (by decide) (fun h71 => ?_) (fun h71 => ?_)
                  · exact absurd h71 (by decide)
                  · refine kv_iload_n dX9_comesTo_151 rfl ?_
                    refine kv_iconst dX9_comesTo_152 1 ki_1 ?_
                    refine kv_icmp_lt dX9_comesTo_153 179 (by decide) (fun h72 => ?_) (fun h72 => ?_)
                    · exact absurd h72 (nI_nlt (a := t2.length + 1) (b := 1) (by omega) (by simp at hl; omega))
                    · refine kv_iinc (ls2 := [_, _, _, _, _, _]) dX9_comesTo_156 (nI (t2.length)) rfl (pk_m1 t2.length) rfl rfl rfl rfl ?_
                      refine kv_aload_n dX9_comesTo_159 rfl ?_
                      refine kv_iload_n dX9_comesTo_160 rfl ?_
                      refine kv_sipush dX9_comesTo_161 (-1000) kz_m1000 ?_
                      refine kv_iload dX9_comesTo_164 rfl ?_
                      refine kv_isub dX9_comesTo_166 ?_
                      refine kv_aload_n dX9_comesTo_167 rfl ?_
                      refine kv_iload_n dX9_comesTo_168 rfl ?_
                      refine kw_il dX9_comesTo_169 hu2 (by first | rfl | assumption) (t2.length) rfl (by simp at hl; omega) rfl ?_
                      rw [hz]
                      refine kv_aload_n dX9_comesTo_170 rfl ?_
                      refine kv_iload_n dX9_comesTo_171 rfl ?_
                      refine kv_iconst dX9_comesTo_172 1 ki_1 ?_
                      refine kv_iadd dX9_comesTo_173 ?_
                      refine kw_il dX9_comesTo_174 hu2 (by first | rfl | assumption) (t2.length + 1) (nI_1 _) (by simp at hl; omega) rfl ?_
                      rw [hy]
                      rw [show (-1000 - (-1062) : Int32) = kSg 20004 from by decide]
                      refine kw_Si [_, _, _] mX9_join dX9_comesTo_175 lX9_31 wX9_join rfl rfl rfl (qX9_join hu2 20004 z y (by simp)) (by decide) ?_
                      refine kw_is dX9_comesTo_178 hu2 (by first | rfl | assumption) (t2.length) rfl (by simp at hl; omega) rfl ?_
                      refine kv_iinc (ls2 := [_, _, _, _, _, _]) dX9_comesTo_179 (nI (i + 1)) rfl (kv_inc1 i) rfl rfl rfl rfl ?_
                      refine kv_goto dX9_comesTo_182 5 (by decide) ?_
                      first | exact KV.loc (ih _ _ hG (E.si rfl) hP.push) (ksS rfl (ksS rfl (ksS rfl (ksS (congrArg (fun z => some (Value.int z)) (nI_pred _).symm) (ksS rfl (ks0 ksN)))))) | exact KV.loc (ih _ _ hG (E.si rfl) (kPi.push hP.2)) (ksS rfl (ksS rfl (ksS rfl (ksS (congrArg (fun z => some (Value.int z)) (nI_pred _).symm) (ksS rfl (ks0 ksN)))))) | exact KV.loc (ih _ _ hG (E.si rfl) (kPi.push hP.2.2)) (ksS rfl (ksS rfl (ksS rfl (ksS (congrArg (fun z => some (Value.int z)) (nI_pred _).symm) (ksS rfl (ks0 ksN))))))
                · exact absurd h70 (by decide)
              · exact absurd h69 (by decide)
            · exact absurd (by decide) h68
        · exact absurd (by decide) h66
      · obtain ⟨y, z, t2, rfl⟩ := htwo (by rw [hc]; decide) (by rw [hc]; decide) (by rw [hc]; decide)
        have hy : v.2.1 387 (t2.length + 1) = y := hP.1
        have hz : v.2.1 387 t2.length = z := hP.2.1
        have hG : kGv (fun k => g (468 + 66 * t + 3 + k)) a b c d (i + 1) = kDone 20005 z y :: t2 := by rw [kGv, hL]; show kGs _ _ _ _ (g (468 + 66 * t + 3 + i)) _ = _; rw [hc]; rfl
        rw [hc, show kEnc 20005 = -1043 from by decide, show nI (y :: z :: t2).length - 1 = nI (t2.length + 1) from nI_pred _]
        refine kv_iload dX9_comesTo_23 rfl ?_
        refine kv_if_lt dX9_comesTo_25 47 (by decide) (fun h73 => ?_) (fun h73 => ?_)
        · refine kv_iload dX9_comesTo_47 rfl ?_
          refine kv_if_ge dX9_comesTo_49 92 (by decide) (fun h74 => ?_) (fun h74 => ?_)
          · exact absurd h74 (by decide)
          · refine kv_iload dX9_comesTo_52 rfl ?_
            refine kv_sipush dX9_comesTo_54 (-1000) kz_m1000 ?_
            refine kv_icmp_le dX9_comesTo_57 92 (by decide) (fun h75 => ?_) (fun h75 => ?_)
            · refine kv_iload dX9_comesTo_92 rfl ?_
              refine kv_sipush dX9_comesTo_94 (-1033) kz_m1033 ?_
              refine kv_icmp_ne dX9_comesTo_97 121 (by decide) (fun h76 => ?_) (fun h76 => ?_)
              · refine kv_iload dX9_comesTo_121 rfl ?_
                refine kv_sipush dX9_comesTo_123 (-1110) kz_m1110 ?_
                refine kv_icmp_ne dX9_comesTo_126 143 (by decide) (fun h77 => ?_) (fun h77 => ?_)
                · refine kv_iload dX9_comesTo_143 rfl ?_
                  refine kv_sipush dX9_comesTo_145 (-1000) kz_m1000 ?_
                  refine kv_icmp_ge dX9_comesTo_148 179 (by decide) (fun h78 => ?_) (fun h78 => ?_)
                  · exact absurd h78 (by decide)
                  · refine kv_iload_n dX9_comesTo_151 rfl ?_
                    refine kv_iconst dX9_comesTo_152 1 ki_1 ?_
                    refine kv_icmp_lt dX9_comesTo_153 179 (by decide) (fun h79 => ?_) (fun h79 => ?_)
                    · exact absurd h79 (nI_nlt (a := t2.length + 1) (b := 1) (by omega) (by simp at hl; omega))
                    · refine kv_iinc (ls2 := [_, _, _, _, _, _]) dX9_comesTo_156 (nI (t2.length)) rfl (pk_m1 t2.length) rfl rfl rfl rfl ?_
                      refine kv_aload_n dX9_comesTo_159 rfl ?_
                      refine kv_iload_n dX9_comesTo_160 rfl ?_
                      refine kv_sipush dX9_comesTo_161 (-1000) kz_m1000 ?_
                      refine kv_iload dX9_comesTo_164 rfl ?_
                      refine kv_isub dX9_comesTo_166 ?_
                      refine kv_aload_n dX9_comesTo_167 rfl ?_
                      refine kv_iload_n dX9_comesTo_168 rfl ?_
                      refine kw_il dX9_comesTo_169 hu2 (by first | rfl | assumption) (t2.length) rfl (by simp at hl; omega) rfl ?_
                      rw [hz]
                      refine kv_aload_n dX9_comesTo_170 rfl ?_
                      refine kv_iload_n dX9_comesTo_171 rfl ?_
                      refine kv_iconst dX9_comesTo_172 1 ki_1 ?_
                      refine kv_iadd dX9_comesTo_173 ?_
                      refine kw_il dX9_comesTo_174 hu2 (by first | rfl | assumption) (t2.length + 1) (nI_1 _) (by simp at hl; omega) rfl ?_
                      rw [hy]
                      rw [show (-1000 - (-1043) : Int32) = kSg 20005 from by decide]
                      refine kw_Si [_, _, _] mX9_join dX9_comesTo_175 lX9_31 wX9_join rfl rfl rfl (qX9_join hu2 20005 z y (by simp)) (by decide) ?_
                      refine kw_is dX9_comesTo_178 hu2 (by first | rfl | assumption) (t2.length) rfl (by simp at hl; omega) rfl ?_
                      refine kv_iinc (ls2 := [_, _, _, _, _, _]) dX9_comesTo_179 (nI (i + 1)) rfl (kv_inc1 i) rfl rfl rfl rfl ?_
                      refine kv_goto dX9_comesTo_182 5 (by decide) ?_
                      first | exact KV.loc (ih _ _ hG (E.si rfl) hP.push) (ksS rfl (ksS rfl (ksS rfl (ksS (congrArg (fun z => some (Value.int z)) (nI_pred _).symm) (ksS rfl (ks0 ksN)))))) | exact KV.loc (ih _ _ hG (E.si rfl) (kPi.push hP.2)) (ksS rfl (ksS rfl (ksS rfl (ksS (congrArg (fun z => some (Value.int z)) (nI_pred _).symm) (ksS rfl (ks0 ksN)))))) | exact KV.loc (ih _ _ hG (E.si rfl) (kPi.push hP.2.2)) (ksS rfl (ksS rfl (ksS rfl (ksS (congrArg (fun z => some (Value.int z)) (nI_pred _).symm) (ksS rfl (ks0 ksN))))))
                · exact absurd h77 (by decide)
              · exact absurd h76 (by decide)
            · exact absurd (by decide) h75
        · exact absurd (by decide) h73
      · obtain ⟨y, z, t2, rfl⟩ := htwo (by rw [hc]; decide) (by rw [hc]; decide) (by rw [hc]; decide)
        have hy : v.2.1 387 (t2.length + 1) = y := hP.1
        have hz : v.2.1 387 t2.length = z := hP.2.1
        have hG : kGv (fun k => g (468 + 66 * t + 3 + k)) a b c d (i + 1) = kDone 20006 z y :: t2 := by rw [kGv, hL]; show kGs _ _ _ _ (g (468 + 66 * t + 3 + i)) _ = _; rw [hc]; rfl
        rw [hc, show kEnc 20006 = -1045 from by decide, show nI (y :: z :: t2).length - 1 = nI (t2.length + 1) from nI_pred _]
        refine kv_iload dX9_comesTo_23 rfl ?_
        refine kv_if_lt dX9_comesTo_25 47 (by decide) (fun h80 => ?_) (fun h80 => ?_)
        · refine kv_iload dX9_comesTo_47 rfl ?_
          refine kv_if_ge dX9_comesTo_49 92 (by decide) (fun h81 => ?_) (fun h81 => ?_)
          · exact absurd h81 (by decide)
          · refine kv_iload dX9_comesTo_52 rfl ?_
            refine kv_sipush dX9_comesTo_54 (-1000) kz_m1000 ?_
            refine kv_icmp_le dX9_comesTo_57 92 (by decide) (fun h82 => ?_) (fun h82 => ?_)
            · refine kv_iload dX9_comesTo_92 rfl ?_
              refine kv_sipush dX9_comesTo_94 (-1033) kz_m1033 ?_
              refine kv_icmp_ne dX9_comesTo_97 121 (by decide) (fun h83 => ?_) (fun h83 => ?_)
              · refine kv_iload dX9_comesTo_121 rfl ?_
                refine kv_sipush dX9_comesTo_123 (-1110) kz_m1110 ?_
                refine kv_icmp_ne dX9_comesTo_126 143 (by decide) (fun h84 => ?_) (fun h84 => ?_)
                · refine kv_iload dX9_comesTo_143 rfl ?_
                  refine kv_sipush dX9_comesTo_145 (-1000) kz_m1000 ?_
                  refine kv_icmp_ge dX9_comesTo_148 179 (by decide) (fun h85 => ?_) (fun h85 => ?_)
                  · exact absurd h85 (by decide)
                  · refine kv_iload_n dX9_comesTo_151 rfl ?_
                    refine kv_iconst dX9_comesTo_152 1 ki_1 ?_
                    refine kv_icmp_lt dX9_comesTo_153 179 (by decide) (fun h86 => ?_) (fun h86 => ?_)
                    · exact absurd h86 (nI_nlt (a := t2.length + 1) (b := 1) (by omega) (by simp at hl; omega))
                    · refine kv_iinc (ls2 := [_, _, _, _, _, _]) dX9_comesTo_156 (nI (t2.length)) rfl (pk_m1 t2.length) rfl rfl rfl rfl ?_
                      refine kv_aload_n dX9_comesTo_159 rfl ?_
                      refine kv_iload_n dX9_comesTo_160 rfl ?_
                      refine kv_sipush dX9_comesTo_161 (-1000) kz_m1000 ?_
                      refine kv_iload dX9_comesTo_164 rfl ?_
                      refine kv_isub dX9_comesTo_166 ?_
                      refine kv_aload_n dX9_comesTo_167 rfl ?_
                      refine kv_iload_n dX9_comesTo_168 rfl ?_
                      refine kw_il dX9_comesTo_169 hu2 (by first | rfl | assumption) (t2.length) rfl (by simp at hl; omega) rfl ?_
                      rw [hz]
                      refine kv_aload_n dX9_comesTo_170 rfl ?_
                      refine kv_iload_n dX9_comesTo_171 rfl ?_
                      refine kv_iconst dX9_comesTo_172 1 ki_1 ?_
                      refine kv_iadd dX9_comesTo_173 ?_
                      refine kw_il dX9_comesTo_174 hu2 (by first | rfl | assumption) (t2.length + 1) (nI_1 _) (by simp at hl; omega) rfl ?_
                      rw [hy]
                      rw [show (-1000 - (-1045) : Int32) = kSg 20006 from by decide]
                      refine kw_Si [_, _, _] mX9_join dX9_comesTo_175 lX9_31 wX9_join rfl rfl rfl (qX9_join hu2 20006 z y (by simp)) (by decide) ?_
                      refine kw_is dX9_comesTo_178 hu2 (by first | rfl | assumption) (t2.length) rfl (by simp at hl; omega) rfl ?_
                      refine kv_iinc (ls2 := [_, _, _, _, _, _]) dX9_comesTo_179 (nI (i + 1)) rfl (kv_inc1 i) rfl rfl rfl rfl ?_
                      refine kv_goto dX9_comesTo_182 5 (by decide) ?_
                      first | exact KV.loc (ih _ _ hG (E.si rfl) hP.push) (ksS rfl (ksS rfl (ksS rfl (ksS (congrArg (fun z => some (Value.int z)) (nI_pred _).symm) (ksS rfl (ks0 ksN)))))) | exact KV.loc (ih _ _ hG (E.si rfl) (kPi.push hP.2)) (ksS rfl (ksS rfl (ksS rfl (ksS (congrArg (fun z => some (Value.int z)) (nI_pred _).symm) (ksS rfl (ks0 ksN)))))) | exact KV.loc (ih _ _ hG (E.si rfl) (kPi.push hP.2.2)) (ksS rfl (ksS rfl (ksS rfl (ksS (congrArg (fun z => some (Value.int z)) (nI_pred _).symm) (ksS rfl (ks0 ksN))))))
                · exact absurd h84 (by decide)
              · exact absurd h83 (by decide)
            · exact absurd (by decide) h82
        · exact absurd (by decide) h80
      · obtain ⟨y, z, t2, rfl⟩ := htwo (by rw [hc]; decide) (by rw [hc]; decide) (by rw [hc]; decide)
        have hy : v.2.1 387 (t2.length + 1) = y := hP.1
        have hz : v.2.1 387 t2.length = z := hP.2.1
        have hG : kGv (fun k => g (468 + 66 * t + 3 + k)) a b c d (i + 1) = kDone 20007 z y :: t2 := by rw [kGv, hL]; show kGs _ _ _ _ (g (468 + 66 * t + 3 + i)) _ = _; rw [hc]; rfl
        rw [hc, show kEnc 20007 = -1042 from by decide, show nI (y :: z :: t2).length - 1 = nI (t2.length + 1) from nI_pred _]
        refine kv_iload dX9_comesTo_23 rfl ?_
        refine kv_if_lt dX9_comesTo_25 47 (by decide) (fun h87 => ?_) (fun h87 => ?_)
        · refine kv_iload dX9_comesTo_47 rfl ?_
          refine kv_if_ge dX9_comesTo_49 92 (by decide) (fun h88 => ?_) (fun h88 => ?_)
          · exact absurd h88 (by decide)
          · refine kv_iload dX9_comesTo_52 rfl ?_
            refine kv_sipush dX9_comesTo_54 (-1000) kz_m1000 ?_
            refine kv_icmp_le dX9_comesTo_57 92 (by decide) (fun h89 => ?_) (fun h89 => ?_)
            · refine kv_iload dX9_comesTo_92 rfl ?_
              refine kv_sipush dX9_comesTo_94 (-1033) kz_m1033 ?_
              refine kv_icmp_ne dX9_comesTo_97 121 (by decide) (fun h90 => ?_) (fun h90 => ?_)
              · refine kv_iload dX9_comesTo_121 rfl ?_
                refine kv_sipush dX9_comesTo_123 (-1110) kz_m1110 ?_
                refine kv_icmp_ne dX9_comesTo_126 143 (by decide) (fun h91 => ?_) (fun h91 => ?_)
                · refine kv_iload dX9_comesTo_143 rfl ?_
                  refine kv_sipush dX9_comesTo_145 (-1000) kz_m1000 ?_
                  refine kv_icmp_ge dX9_comesTo_148 179 (by decide) (fun h92 => ?_) (fun h92 => ?_)
                  · exact absurd h92 (by decide)
                  · refine kv_iload_n dX9_comesTo_151 rfl ?_
                    refine kv_iconst dX9_comesTo_152 1 ki_1 ?_
                    refine kv_icmp_lt dX9_comesTo_153 179 (by decide) (fun h93 => ?_) (fun h93 => ?_)
                    · exact absurd h93 (nI_nlt (a := t2.length + 1) (b := 1) (by omega) (by simp at hl; omega))
                    · refine kv_iinc (ls2 := [_, _, _, _, _, _]) dX9_comesTo_156 (nI (t2.length)) rfl (pk_m1 t2.length) rfl rfl rfl rfl ?_
                      refine kv_aload_n dX9_comesTo_159 rfl ?_
                      refine kv_iload_n dX9_comesTo_160 rfl ?_
                      refine kv_sipush dX9_comesTo_161 (-1000) kz_m1000 ?_
                      refine kv_iload dX9_comesTo_164 rfl ?_
                      refine kv_isub dX9_comesTo_166 ?_
                      refine kv_aload_n dX9_comesTo_167 rfl ?_
                      refine kv_iload_n dX9_comesTo_168 rfl ?_
                      refine kw_il dX9_comesTo_169 hu2 (by first | rfl | assumption) (t2.length) rfl (by simp at hl; omega) rfl ?_
                      rw [hz]
                      refine kv_aload_n dX9_comesTo_170 rfl ?_
                      refine kv_iload_n dX9_comesTo_171 rfl ?_
                      refine kv_iconst dX9_comesTo_172 1 ki_1 ?_
                      refine kv_iadd dX9_comesTo_173 ?_
                      refine kw_il dX9_comesTo_174 hu2 (by first | rfl | assumption) (t2.length + 1) (nI_1 _) (by simp at hl; omega) rfl ?_
                      rw [hy]
                      rw [show (-1000 - (-1042) : Int32) = kSg 20007 from by decide]
                      refine kw_Si [_, _, _] mX9_join dX9_comesTo_175 lX9_31 wX9_join rfl rfl rfl (qX9_join hu2 20007 z y (by simp)) (by decide) ?_
                      refine kw_is dX9_comesTo_178 hu2 (by first | rfl | assumption) (t2.length) rfl (by simp at hl; omega) rfl ?_
                      refine kv_iinc (ls2 := [_, _, _, _, _, _]) dX9_comesTo_179 (nI (i + 1)) rfl (kv_inc1 i) rfl rfl rfl rfl ?_
                      refine kv_goto dX9_comesTo_182 5 (by decide) ?_
                      first | exact KV.loc (ih _ _ hG (E.si rfl) hP.push) (ksS rfl (ksS rfl (ksS rfl (ksS (congrArg (fun z => some (Value.int z)) (nI_pred _).symm) (ksS rfl (ks0 ksN)))))) | exact KV.loc (ih _ _ hG (E.si rfl) (kPi.push hP.2)) (ksS rfl (ksS rfl (ksS rfl (ksS (congrArg (fun z => some (Value.int z)) (nI_pred _).symm) (ksS rfl (ks0 ksN)))))) | exact KV.loc (ih _ _ hG (E.si rfl) (kPi.push hP.2.2)) (ksS rfl (ksS rfl (ksS rfl (ksS (congrArg (fun z => some (Value.int z)) (nI_pred _).symm) (ksS rfl (ks0 ksN))))))
                · exact absurd h91 (by decide)
              · exact absurd h90 (by decide)
            · exact absurd (by decide) h89
        · exact absurd (by decide) h87
      · obtain ⟨y, z, t2, rfl⟩ := htwo (by rw [hc]; decide) (by rw [hc]; decide) (by rw [hc]; decide)
        have hy : v.2.1 387 (t2.length + 1) = y := hP.1
        have hz : v.2.1 387 t2.length = z := hP.2.1
        have hG : kGv (fun k => g (468 + 66 * t + 3 + k)) a b c d (i + 1) = kDone 20008 z y :: t2 := by rw [kGv, hL]; show kGs _ _ _ _ (g (468 + 66 * t + 3 + i)) _ = _; rw [hc]; rfl
        rw [hc, show kEnc 20008 = -1047 from by decide, show nI (y :: z :: t2).length - 1 = nI (t2.length + 1) from nI_pred _]
        refine kv_iload dX9_comesTo_23 rfl ?_
        refine kv_if_lt dX9_comesTo_25 47 (by decide) (fun h94 => ?_) (fun h94 => ?_)
        · refine kv_iload dX9_comesTo_47 rfl ?_
          refine kv_if_ge dX9_comesTo_49 92 (by decide) (fun h95 => ?_) (fun h95 => ?_)
          · exact absurd h95 (by decide)
          · refine kv_iload dX9_comesTo_52 rfl ?_
            refine kv_sipush dX9_comesTo_54 (-1000) kz_m1000 ?_
            refine kv_icmp_le dX9_comesTo_57 92 (by decide) (fun h96 => ?_) (fun h96 => ?_)
            · refine kv_iload dX9_comesTo_92 rfl ?_
              refine kv_sipush dX9_comesTo_94 (-1033) kz_m1033 ?_
              refine kv_icmp_ne dX9_comesTo_97 121 (by decide) (fun h97 => ?_) (fun h97 => ?_)
              · refine kv_iload dX9_comesTo_121 rfl ?_
                refine kv_sipush dX9_comesTo_123 (-1110) kz_m1110 ?_
                refine kv_icmp_ne dX9_comesTo_126 143 (by decide) (fun h98 => ?_) (fun h98 => ?_)
                · refine kv_iload dX9_comesTo_143 rfl ?_
                  refine kv_sipush dX9_comesTo_145 (-1000) kz_m1000 ?_
                  refine kv_icmp_ge dX9_comesTo_148 179 (by decide) (fun h99 => ?_) (fun h99 => ?_)
                  · exact absurd h99 (by decide)
                  · refine kv_iload_n dX9_comesTo_151 rfl ?_
                    refine kv_iconst dX9_comesTo_152 1 ki_1 ?_
                    refine kv_icmp_lt dX9_comesTo_153 179 (by decide) (fun h100 => ?_) (fun h100 => ?_)
                    · exact absurd h100 (nI_nlt (a := t2.length + 1) (b := 1) (by omega) (by simp at hl; omega))
                    · refine kv_iinc (ls2 := [_, _, _, _, _, _]) dX9_comesTo_156 (nI (t2.length)) rfl (pk_m1 t2.length) rfl rfl rfl rfl ?_
                      refine kv_aload_n dX9_comesTo_159 rfl ?_
                      refine kv_iload_n dX9_comesTo_160 rfl ?_
                      refine kv_sipush dX9_comesTo_161 (-1000) kz_m1000 ?_
                      refine kv_iload dX9_comesTo_164 rfl ?_
                      refine kv_isub dX9_comesTo_166 ?_
                      refine kv_aload_n dX9_comesTo_167 rfl ?_
                      refine kv_iload_n dX9_comesTo_168 rfl ?_
                      refine kw_il dX9_comesTo_169 hu2 (by first | rfl | assumption) (t2.length) rfl (by simp at hl; omega) rfl ?_
                      rw [hz]
                      refine kv_aload_n dX9_comesTo_170 rfl ?_
                      refine kv_iload_n dX9_comesTo_171 rfl ?_
                      refine kv_iconst dX9_comesTo_172 1 ki_1 ?_
                      refine kv_iadd dX9_comesTo_173 ?_
                      refine kw_il dX9_comesTo_174 hu2 (by first | rfl | assumption) (t2.length + 1) (nI_1 _) (by simp at hl; omega) rfl ?_
                      rw [hy]
                      rw [show (-1000 - (-1047) : Int32) = kSg 20008 from by decide]
                      refine kw_Si [_, _, _] mX9_join dX9_comesTo_175 lX9_31 wX9_join rfl rfl rfl (qX9_join hu2 20008 z y (by simp)) (by decide) ?_
                      refine kw_is dX9_comesTo_178 hu2 (by first | rfl | assumption) (t2.length) rfl (by simp at hl; omega) rfl ?_
                      refine kv_iinc (ls2 := [_, _, _, _, _, _]) dX9_comesTo_179 (nI (i + 1)) rfl (kv_inc1 i) rfl rfl rfl rfl ?_
                      refine kv_goto dX9_comesTo_182 5 (by decide) ?_
                      first | exact KV.loc (ih _ _ hG (E.si rfl) hP.push) (ksS rfl (ksS rfl (ksS rfl (ksS (congrArg (fun z => some (Value.int z)) (nI_pred _).symm) (ksS rfl (ks0 ksN)))))) | exact KV.loc (ih _ _ hG (E.si rfl) (kPi.push hP.2)) (ksS rfl (ksS rfl (ksS rfl (ksS (congrArg (fun z => some (Value.int z)) (nI_pred _).symm) (ksS rfl (ks0 ksN)))))) | exact KV.loc (ih _ _ hG (E.si rfl) (kPi.push hP.2.2)) (ksS rfl (ksS rfl (ksS rfl (ksS (congrArg (fun z => some (Value.int z)) (nI_pred _).symm) (ksS rfl (ks0 ksN))))))
                · exact absurd h98 (by decide)
              · exact absurd h97 (by decide)
            · exact absurd (by decide) h96
        · exact absurd (by decide) h94
      · obtain ⟨y, z, t2, rfl⟩ := htwo (by rw [hc]; decide) (by rw [hc]; decide) (by rw [hc]; decide)
        have hy : v.2.1 387 (t2.length + 1) = y := hP.1
        have hz : v.2.1 387 t2.length = z := hP.2.1
        have hG : kGv (fun k => g (468 + 66 * t + 3 + k)) a b c d (i + 1) = kDone 20009 z y :: t2 := by rw [kGv, hL]; show kGs _ _ _ _ (g (468 + 66 * t + 3 + i)) _ = _; rw [hc]; rfl
        rw [hc, show kEnc 20009 = -1103 from by decide, show nI (y :: z :: t2).length - 1 = nI (t2.length + 1) from nI_pred _]
        refine kv_iload dX9_comesTo_23 rfl ?_
        refine kv_if_lt dX9_comesTo_25 47 (by decide) (fun h101 => ?_) (fun h101 => ?_)
        · refine kv_iload dX9_comesTo_47 rfl ?_
          refine kv_if_ge dX9_comesTo_49 92 (by decide) (fun h102 => ?_) (fun h102 => ?_)
          · exact absurd h102 (by decide)
          · refine kv_iload dX9_comesTo_52 rfl ?_
            refine kv_sipush dX9_comesTo_54 (-1000) kz_m1000 ?_
            refine kv_icmp_le dX9_comesTo_57 92 (by decide) (fun h103 => ?_) (fun h103 => ?_)
            · refine kv_iload dX9_comesTo_92 rfl ?_
              refine kv_sipush dX9_comesTo_94 (-1033) kz_m1033 ?_
              refine kv_icmp_ne dX9_comesTo_97 121 (by decide) (fun h104 => ?_) (fun h104 => ?_)
              · refine kv_iload dX9_comesTo_121 rfl ?_
                refine kv_sipush dX9_comesTo_123 (-1110) kz_m1110 ?_
                refine kv_icmp_ne dX9_comesTo_126 143 (by decide) (fun h105 => ?_) (fun h105 => ?_)
                · refine kv_iload dX9_comesTo_143 rfl ?_
                  refine kv_sipush dX9_comesTo_145 (-1000) kz_m1000 ?_
                  refine kv_icmp_ge dX9_comesTo_148 179 (by decide) (fun h106 => ?_) (fun h106 => ?_)
                  · exact absurd h106 (by decide)
                  · refine kv_iload_n dX9_comesTo_151 rfl ?_
                    refine kv_iconst dX9_comesTo_152 1 ki_1 ?_
                    refine kv_icmp_lt dX9_comesTo_153 179 (by decide) (fun h107 => ?_) (fun h107 => ?_)
                    · exact absurd h107 (nI_nlt (a := t2.length + 1) (b := 1) (by omega) (by simp at hl; omega))
                    · refine kv_iinc (ls2 := [_, _, _, _, _, _]) dX9_comesTo_156 (nI (t2.length)) rfl (pk_m1 t2.length) rfl rfl rfl rfl ?_
                      refine kv_aload_n dX9_comesTo_159 rfl ?_
                      refine kv_iload_n dX9_comesTo_160 rfl ?_
                      refine kv_sipush dX9_comesTo_161 (-1000) kz_m1000 ?_
                      refine kv_iload dX9_comesTo_164 rfl ?_
                      refine kv_isub dX9_comesTo_166 ?_
                      refine kv_aload_n dX9_comesTo_167 rfl ?_
                      refine kv_iload_n dX9_comesTo_168 rfl ?_
                      refine kw_il dX9_comesTo_169 hu2 (by first | rfl | assumption) (t2.length) rfl (by simp at hl; omega) rfl ?_
                      rw [hz]
                      refine kv_aload_n dX9_comesTo_170 rfl ?_
                      refine kv_iload_n dX9_comesTo_171 rfl ?_
                      refine kv_iconst dX9_comesTo_172 1 ki_1 ?_
                      refine kv_iadd dX9_comesTo_173 ?_
                      refine kw_il dX9_comesTo_174 hu2 (by first | rfl | assumption) (t2.length + 1) (nI_1 _) (by simp at hl; omega) rfl ?_
                      rw [hy]
                      rw [show (-1000 - (-1103) : Int32) = kSg 20009 from by decide]
                      refine kw_Si [_, _, _] mX9_join dX9_comesTo_175 lX9_31 wX9_join rfl rfl rfl (qX9_join hu2 20009 z y (by simp)) (by decide) ?_
                      refine kw_is dX9_comesTo_178 hu2 (by first | rfl | assumption) (t2.length) rfl (by simp at hl; omega) rfl ?_
                      refine kv_iinc (ls2 := [_, _, _, _, _, _]) dX9_comesTo_179 (nI (i + 1)) rfl (kv_inc1 i) rfl rfl rfl rfl ?_
                      refine kv_goto dX9_comesTo_182 5 (by decide) ?_
                      first | exact KV.loc (ih _ _ hG (E.si rfl) hP.push) (ksS rfl (ksS rfl (ksS rfl (ksS (congrArg (fun z => some (Value.int z)) (nI_pred _).symm) (ksS rfl (ks0 ksN)))))) | exact KV.loc (ih _ _ hG (E.si rfl) (kPi.push hP.2)) (ksS rfl (ksS rfl (ksS rfl (ksS (congrArg (fun z => some (Value.int z)) (nI_pred _).symm) (ksS rfl (ks0 ksN)))))) | exact KV.loc (ih _ _ hG (E.si rfl) (kPi.push hP.2.2)) (ksS rfl (ksS rfl (ksS rfl (ksS (congrArg (fun z => some (Value.int z)) (nI_pred _).symm) (ksS rfl (ks0 ksN))))))
                · exact absurd h105 (by decide)
              · exact absurd h104 (by decide)
            · exact absurd (by decide) h103
        · exact absurd (by decide) h101
      · obtain ⟨y, z, t2, rfl⟩ := htwo (by rw [hc]; decide) (by rw [hc]; decide) (by rw [hc]; decide)
        have hy : v.2.1 387 (t2.length + 1) = y := hP.1
        have hz : v.2.1 387 t2.length = z := hP.2.1
        have hG : kGv (fun k => g (468 + 66 * t + 3 + k)) a b c d (i + 1) = kDone 20010 z y :: t2 := by rw [kGv, hL]; show kGs _ _ _ _ (g (468 + 66 * t + 3 + i)) _ = _; rw [hc]; rfl
        rw [hc, show kEnc 20010 = -1108 from by decide, show nI (y :: z :: t2).length - 1 = nI (t2.length + 1) from nI_pred _]
        refine kv_iload dX9_comesTo_23 rfl ?_
        refine kv_if_lt dX9_comesTo_25 47 (by decide) (fun h108 => ?_) (fun h108 => ?_)
        · refine kv_iload dX9_comesTo_47 rfl ?_
          refine kv_if_ge dX9_comesTo_49 92 (by decide) (fun h109 => ?_) (fun h109 => ?_)
          · exact absurd h109 (by decide)
          · refine kv_iload dX9_comesTo_52 rfl ?_
            refine kv_sipush dX9_comesTo_54 (-1000) kz_m1000 ?_
            refine kv_icmp_le dX9_comesTo_57 92 (by decide) (fun h110 => ?_) (fun h110 => ?_)
            · refine kv_iload dX9_comesTo_92 rfl ?_
              refine kv_sipush dX9_comesTo_94 (-1033) kz_m1033 ?_
              refine kv_icmp_ne dX9_comesTo_97 121 (by decide) (fun h111 => ?_) (fun h111 => ?_)
              · refine kv_iload dX9_comesTo_121 rfl ?_
                refine kv_sipush dX9_comesTo_123 (-1110) kz_m1110 ?_
                refine kv_icmp_ne dX9_comesTo_126 143 (by decide) (fun h112 => ?_) (fun h112 => ?_)
                · refine kv_iload dX9_comesTo_143 rfl ?_
                  refine kv_sipush dX9_comesTo_145 (-1000) kz_m1000 ?_
                  refine kv_icmp_ge dX9_comesTo_148 179 (by decide) (fun h113 => ?_) (fun h113 => ?_)
                  · exact absurd h113 (by decide)
                  · refine kv_iload_n dX9_comesTo_151 rfl ?_
                    refine kv_iconst dX9_comesTo_152 1 ki_1 ?_
                    refine kv_icmp_lt dX9_comesTo_153 179 (by decide) (fun h114 => ?_) (fun h114 => ?_)
                    · exact absurd h114 (nI_nlt (a := t2.length + 1) (b := 1) (by omega) (by simp at hl; omega))
                    · refine kv_iinc (ls2 := [_, _, _, _, _, _]) dX9_comesTo_156 (nI (t2.length)) rfl (pk_m1 t2.length) rfl rfl rfl rfl ?_
                      refine kv_aload_n dX9_comesTo_159 rfl ?_
                      refine kv_iload_n dX9_comesTo_160 rfl ?_
                      refine kv_sipush dX9_comesTo_161 (-1000) kz_m1000 ?_
                      refine kv_iload dX9_comesTo_164 rfl ?_
                      refine kv_isub dX9_comesTo_166 ?_
                      refine kv_aload_n dX9_comesTo_167 rfl ?_
                      refine kv_iload_n dX9_comesTo_168 rfl ?_
                      refine kw_il dX9_comesTo_169 hu2 (by first | rfl | assumption) (t2.length) rfl (by simp at hl; omega) rfl ?_
                      rw [hz]
                      refine kv_aload_n dX9_comesTo_170 rfl ?_
                      refine kv_iload_n dX9_comesTo_171 rfl ?_
                      refine kv_iconst dX9_comesTo_172 1 ki_1 ?_
                      refine kv_iadd dX9_comesTo_173 ?_
                      refine kw_il dX9_comesTo_174 hu2 (by first | rfl | assumption) (t2.length + 1) (nI_1 _) (by simp at hl; omega) rfl ?_
                      rw [hy]
                      rw [show (-1000 - (-1108) : Int32) = kSg 20010 from by decide]
                      refine kw_Si [_, _, _] mX9_join dX9_comesTo_175 lX9_31 wX9_join rfl rfl rfl (qX9_join hu2 20010 z y (by simp)) (by decide) ?_
                      refine kw_is dX9_comesTo_178 hu2 (by first | rfl | assumption) (t2.length) rfl (by simp at hl; omega) rfl ?_
                      refine kv_iinc (ls2 := [_, _, _, _, _, _]) dX9_comesTo_179 (nI (i + 1)) rfl (kv_inc1 i) rfl rfl rfl rfl ?_
                      refine kv_goto dX9_comesTo_182 5 (by decide) ?_
                      first | exact KV.loc (ih _ _ hG (E.si rfl) hP.push) (ksS rfl (ksS rfl (ksS rfl (ksS (congrArg (fun z => some (Value.int z)) (nI_pred _).symm) (ksS rfl (ks0 ksN)))))) | exact KV.loc (ih _ _ hG (E.si rfl) (kPi.push hP.2)) (ksS rfl (ksS rfl (ksS rfl (ksS (congrArg (fun z => some (Value.int z)) (nI_pred _).symm) (ksS rfl (ks0 ksN)))))) | exact KV.loc (ih _ _ hG (E.si rfl) (kPi.push hP.2.2)) (ksS rfl (ksS rfl (ksS rfl (ksS (congrArg (fun z => some (Value.int z)) (nI_pred _).symm) (ksS rfl (ks0 ksN))))))
                · exact absurd h112 (by decide)
              · exact absurd h111 (by decide)
            · exact absurd (by decide) h110
        · exact absurd (by decide) h108
def kNamJ (u : KMem) (a b c d : Int32) (r : Option Value) (v : KMem) : Prop := r = none ∧ kEq kSJ u v ∧ v.2.1 386 0 = a ∧ v.2.1 386 1 = b ∧ v.2.1 386 2 = c ∧ v.2.1 386 3 = d
set_option maxRecDepth 20000 in
set_option maxHeartbeats 4000000 in
theorem rX3_name {w : KW} {l : Launch} {u : KMem} (hu : kWd u) (a b c d : Int32) : KC w l mX3_name 0 0 0 [.ref 385, .int a, .int b, .int c, .int d] u (kNamJ u a b c d) := by
  refine KC.of (ls := [_, _, _, _, _]) rfl rfl (Nat.le_of_ble_eq_true rfl) ?_
  refine kv_aload_n dX3_name_0 rfl ?_
  refine kw_gR dX3_name_1 fX3_9 hu (by first | rfl | assumption) rfl rfl (by first | rfl | assumption) ?_
  refine kv_iconst dX3_name_4 0 ki_0 ?_
  refine kv_iload_n dX3_name_5 rfl ?_
  refine kw_is dX3_name_6 hu (by first | rfl | assumption) (_) (show (0 : Int32) = nI 0 from rfl) (by omega) rfl ?_
  refine kv_aload_n dX3_name_7 rfl ?_
  refine kw_gR dX3_name_8 fX3_9 hu (by first | rfl | assumption) rfl rfl (by first | rfl | assumption) ?_
  refine kv_iconst dX3_name_11 1 ki_1 ?_
  refine kv_iload_n dX3_name_12 rfl ?_
  refine kw_is dX3_name_13 hu (by first | rfl | assumption) (_) (show (1 : Int32) = nI 1 from rfl) (by omega) rfl ?_
  refine kv_aload_n dX3_name_14 rfl ?_
  refine kw_gR dX3_name_15 fX3_9 hu (by first | rfl | assumption) rfl rfl (by first | rfl | assumption) ?_
  refine kv_iconst dX3_name_18 2 ki_2 ?_
  refine kv_iload_n dX3_name_19 rfl ?_
  refine kw_is dX3_name_20 hu (by first | rfl | assumption) (_) (show (2 : Int32) = nI 2 from rfl) (by omega) rfl ?_
  refine kv_aload_n dX3_name_21 rfl ?_
  refine kw_gR dX3_name_22 fX3_9 hu (by first | rfl | assumption) rfl rfl (by first | rfl | assumption) ?_
  refine kv_iconst dX3_name_25 3 ki_3 ?_
  refine kv_iload dX3_name_26 rfl ?_
  refine kw_is dX3_name_28 hu (by first | rfl | assumption) (_) (show (3 : Int32) = nI 3 from rfl) (by omega) rfl ?_
  exact kv_vret dX3_name_29 rfl ⟨rfl, ((((kEq.rf.si (Or.inl (by omega))).si (Or.inl (by omega))).si (Or.inl (by omega))).si (Or.inl (by omega))), by rw [kv_si_k (by decide), kv_si_k (by decide), kv_si_k (by decide), kv_si_s], by rw [kv_si_k (by decide), kv_si_k (by decide), kv_si_s], by rw [kv_si_k (by decide), kv_si_s], by rw [kv_si_s]⟩
set_option maxRecDepth 20000 in
set_option maxHeartbeats 4000000 in
theorem rX3_follow {w : KW} {l : Launch} {u : KMem} (hu : kWd u) {g : Nat → Int32} (hr : kRS 1 g u) (hg : kGI g) (t : Nat) (ht : t < kN g 3) {a b c d : Int32} (ha : u.2.1 386 0 = a) (hb : u.2.1 386 1 = b) (hcc : u.2.1 386 2 = c) (hd : u.2.1 386 3 = d) : KC w l mX3_follow 2 0 0 [.ref 385, .int (nI t)] u (kp kSJ u (some (.int (kGiven g t a b c d)))) := by
  have hx20 := (hg.cnt (k := 2) rfl).2
  have hc30 := (hg.cnt (k := 0) rfl).2
  have ht10 := (hg.cnt (k := 3) rfl).2
  have he40 := (hg.cnt (k := 4) rfl).2
  have hs16 := hg.cnt (k := 1) rfl
  have kt := ks_treaty t (by omega)
  have kt1 := kt.1
  have kt2 := kt.2.2.2
  refine KC.of (ls := [_, _]) rfl rfl (Nat.le_of_ble_eq_true rfl) ?_
  refine kv_aload_n dX3_follow_0 rfl ?_
  refine kw_gR dX3_follow_1 fX3_18 hu (by first | rfl | assumption) rfl rfl (by first | rfl | assumption) ?_
  refine kw_gR dX3_follow_4 fX3_92 hu (by first | rfl | assumption) rfl rfl (by first | rfl | assumption) ?_
  refine kv_iload_n dX3_follow_7 rfl ?_
  refine kw_al (t := 2) (n := 10) dX3_follow_8 hu rfl rfl (t) rfl (by omega) rfl (by first | rfl | assumption) ?_
  refine kv_aload_n dX3_follow_9 rfl ?_
  refine kw_gR dX3_follow_10 fX3_9 hu (by first | rfl | assumption) rfl rfl (by first | rfl | assumption) ?_
  refine kv_aload_n dX3_follow_13 rfl ?_
  refine kw_gR dX3_follow_14 fX3_15 hu (by first | rfl | assumption) rfl rfl (by first | rfl | assumption) ?_
  refine kw_Vpi [_, _] mX9_comesTo dX3_follow_17 lX3_102 wX9_comesTo kC9 hu rfl (by first | rfl | assumption) rfl rfl rfl (rX9_comesTo hu hr hg t ht ha hb hcc hd) (by decide) (fun v1 e1 => ?_)
  have hu1 := e1.wd hu
  have E1 := e1
  have hr1 := hr.eqJ hg E1
  exact kv_iret dX3_follow_20 rfl ⟨rfl, E1⟩
set_option maxRecDepth 20000 in
set_option maxHeartbeats 4000000 in
theorem rX3_agreed {w : KW} {l : Launch} {u : KMem} (hu : kWd u) {g : Nat → Int32} (hr : kRS 1 g u) (hg : kGI g) (x : Nat) (hx : x < kN g 2) : KC w l mX3_agreed 3 0 0 [.ref 385, .ref (1 + (72 + 3 * x))] u (kp kSJ u (some (.int (kAgr g x)))) := by
  have hx20 := (hg.cnt (k := 2) rfl).2
  have hc30 := (hg.cnt (k := 0) rfl).2
  have ht10 := (hg.cnt (k := 3) rfl).2
  have he40 := (hg.cnt (k := 4) rfl).2
  have hs16 := hg.cnt (k := 1) rfl
  have kx := ks_crash x (by omega)
  have kx1 := kx.1
  have kx2 := kx.2.1
  have kx3 := kx.2.2.1
  have kx4 := kx.2.2.2.1
  have kx5 := kx.2.2.2.2.1
  have kx6 := kx.2.2.2.2.2
  have hbc : kBC (kLeft g x) = kBits (kLeft g x) 24 := by
    obtain ⟨m, hm, e⟩ := hg.left x
    have h2 : 2 ^ kN g 1 ≤ 2 ^ 16 := Nat.pow_le_pow_right (by decide) hs16.2
    rw [e]
    exact kBC_e (by omega)
  refine KC.of (ls := [_, _, _, _, _, _, _]) rfl rfl (Nat.le_of_ble_eq_true rfl) ?_
  refine kv_aload_n dX3_agreed_0 rfl ?_
  refine kv_aload_n dX3_agreed_1 rfl ?_
  refine kw_Vi [_] mX3_left dX3_agreed_2 lX3_58 wX3_left kC3 hu rfl (by first | rfl | assumption) rfl rfl rfl (qX3_left hu hr hg x hx) (by decide) ?_
  refine kv_istore_n (ls2 := [_, _, _, _, _, _, _]) dX3_agreed_5 rfl rfl rfl rfl ?_
  refine kv_aload_n dX3_agreed_6 rfl ?_
  refine kv_iload_n dX3_agreed_7 rfl ?_
  refine kw_Vi [_] mX3_least dX3_agreed_8 lX3_61 wX3_least kC3 hu rfl (by first | rfl | assumption) rfl rfl rfl (qX3_least hu hr hg _ (hg.left x)) (by decide) ?_
  refine kv_istore_n (ls2 := [_, _, _, _, _, _, _]) dX3_agreed_11 rfl rfl rfl rfl ?_
  refine kv_aload_n dX3_agreed_12 rfl ?_
  refine kv_iload_n dX3_agreed_13 rfl ?_
  refine kw_Vi [_] mX3_most dX3_agreed_14 lX3_65 wX3_most kC3 hu rfl (by first | rfl | assumption) rfl rfl rfl (qX3_most hu hr hg _ (hg.left x)) (by decide) ?_
  refine kv_istore (ls2 := [_, _, _, _, _, _, _]) dX3_agreed_17 rfl rfl rfl rfl ?_
  refine kv_aload_n dX3_agreed_19 rfl ?_
  refine kv_iconst dX3_agreed_20 0 ki_0 ?_
  refine kv_aload_n dX3_agreed_21 rfl ?_
  refine kw_gI dX3_agreed_22 fX3_68 hu (by first | rfl | assumption) rfl rfl ?_
  rw [hr.day hx]
  refine kw_Vi [_, _] mX3_inForce dX3_agreed_25 lX3_71 wX3_inForce kC3 hu rfl (by first | rfl | assumption) rfl rfl rfl (qX3_inForce hu hr hg _ _) (by decide) ?_
  refine kv_istore (ls2 := [_, _, _, _, _, _, _]) dX3_agreed_28 rfl rfl rfl rfl ?_
  refine kv_iload_n dX3_agreed_30 rfl ?_
  refine kv_iload dX3_agreed_31 rfl ?_
  refine kv_iadd dX3_agreed_33 ?_
  refine kv_iconst dX3_agreed_34 2 ki_2 ?_
  refine kv_idiv dX3_agreed_35 (by decide) ?_
  refine kv_istore (ls2 := [_, _, _, _, _, _, _]) dX3_agreed_36 rfl rfl rfl rfl ?_
  refine kv_iload dX3_agreed_38 rfl ?_
  refine kv_if_lt dX3_agreed_40 66 (by decide) (fun h1 => ?_) (fun h1 => ?_)
  · have hc := kLn h1
    refine kv_iconst dX3_agreed_66 0 ki_0 ?_
    refine kv_bipush dX3_agreed_67 100 kb_100 ?_
    refine kv_iload dX3_agreed_69 rfl ?_
    refine kw_mmin dX3_agreed_71 lX3_49 rfl (by omega) ?_
    refine kw_mmax dX3_agreed_74 lX3_55 rfl (by omega) ?_
    exact kv_iret dX3_agreed_77 rfl ⟨by unfold kAgr; first | (rw [if_pos hc]; rfl) | (rw [if_neg hc]; rfl), kEq.rf⟩
  · have hT := kInF_ge (by omega) (kNl h1)
    have hc := kNl h1
    refine kv_aload_n dX3_agreed_43 rfl ?_
    refine kv_iload_n dX3_agreed_44 rfl ?_
    refine kv_iload dX3_agreed_45 rfl ?_
    refine kv_iload_n dX3_agreed_47 rfl ?_
    refine kw_Si [_] mJ6_bitCount_0f7a4 dX3_agreed_48 lX3_74 wJ6_bitCount_0f7a4 rfl rfl rfl (qJ6_bitCount_0f7a4 hu _) (by decide) ?_
    rw [hbc]
    refine kv_aload_n dX3_agreed_51 rfl ?_
    refine kw_gI dX3_agreed_52 fX3_79 hu (by first | rfl | assumption) rfl rfl ?_
    rw [hr.speed hx]
    refine kw_VQ [_, _, _, _] mX3_name dX3_agreed_55 lX3_82 wX3_name kC3 hu rfl (by first | rfl | assumption) rfl rfl rfl (rX3_name hu _ _ _ _) (by decide) (fun _ v1 q1 => ?_)
    obtain ⟨rfl, e1, na, nb, nc, nd⟩ := q1
    have hu1 := e1.wd hu
    have E1 := e1
    have hr1 := hr.eqJ hg E1
    refine kv_aload_n dX3_agreed_58 rfl ?_
    refine kv_iload dX3_agreed_59 rfl ?_
    rw [hT.2]
    refine kw_Vpi [_] mX3_follow dX3_agreed_61 lX3_86 wX3_follow kC3 hu1 rfl (by first | rfl | assumption) rfl rfl rfl (rX3_follow hu1 hr1 hg _ hT.1 na nb nc nd) (by decide) (fun v2 e2 => ?_)
    have hu2 := e2.wd hu1
    have E2 := E1.tr e2
    have hr2 := hr.eqJ hg E2
    refine kv_istore (ls2 := [_, _, _, _, _, _, _]) dX3_agreed_64 rfl rfl rfl rfl ?_
    refine kv_iconst dX3_agreed_66 0 ki_0 ?_
    refine kv_bipush dX3_agreed_67 100 kb_100 ?_
    refine kv_iload dX3_agreed_69 rfl ?_
    refine kw_mmin dX3_agreed_71 lX3_49 rfl (by omega) ?_
    refine kw_mmax dX3_agreed_74 lX3_55 rfl (by omega) ?_
    exact kv_iret dX3_agreed_77 rfl ⟨by unfold kAgr; first | (rw [if_pos hc]; rfl) | (rw [if_neg hc]; rfl), E2⟩
set_option maxRecDepth 20000 in
set_option maxHeartbeats 4000000 in
theorem rX3_claim {w : KW} {l : Launch} {u : KMem} (hu : kWd u) {g : Nat → Int32} (hr : kRS 1 g u) (hg : kGI g) (x : Nat) (hx : x < kN g 2) (s : Nat) (hs : s < 2) : KC w l mX3_claim 4 0 0 [.ref 385, .ref (1 + (72 + 3 * x)), .int (nI s)] u (kp kSJ u (some (.int (kClm g x s)))) := by
  have hx20 := (hg.cnt (k := 2) rfl).2
  have hc30 := (hg.cnt (k := 0) rfl).2
  have ht10 := (hg.cnt (k := 3) rfl).2
  have he40 := (hg.cnt (k := 4) rfl).2
  have hs16 := hg.cnt (k := 1) rfl
  have kx := ks_crash x (by omega)
  have kx1 := kx.1
  have kx2 := kx.2.1
  have kx3 := kx.2.2.1
  have kx4 := kx.2.2.2.1
  have kx5 := kx.2.2.2.2.1
  have kx6 := kx.2.2.2.2.2
  refine KC.of (ls := [_, _, _, _, _]) rfl rfl (Nat.le_of_ble_eq_true rfl) ?_
  refine kv_aload_n dX3_claim_0 rfl ?_
  refine kv_aload_n dX3_claim_1 rfl ?_
  refine kw_Vpi [_] mX3_agreed dX3_claim_2 lX3_149 wX3_agreed kC3 hu rfl (by first | rfl | assumption) rfl rfl rfl (rX3_agreed hu hr hg x hx) (by decide) (fun v1 e1 => ?_)
  have hu1 := e1.wd hu
  have E1 := e1
  have hr1 := hr.eqJ hg E1
  refine kv_istore_n (ls2 := [_, _, _, _, _]) dX3_claim_5 rfl rfl rfl rfl ?_
  refine kv_iload_n dX3_claim_6 rfl ?_
  refine kv_if_ne dX3_claim_7 17 (by decide) (fun h1 => ?_) (fun h1 => ?_)
  · have hs1 : ¬ s = 0 := fun q => h1 (by rw [q]; rfl)
    refine kv_iload_n dX3_claim_17 rfl ?_
    refine kv_istore (ls2 := [_, _, _, _, _]) dX3_claim_18 rfl rfl rfl rfl ?_
    refine kv_aload_n dX3_claim_20 rfl ?_
    refine kv_aload_n dX3_claim_21 rfl ?_
    refine kv_iload_n dX3_claim_22 rfl ?_
    refine kw_VQ [_, _] mX3_appraise dX3_claim_23 lX3_152 wX3_appraise kC3 hu1 rfl (by first | rfl | assumption) rfl rfl rfl (qX3_appraise hu1 hr1 hg x hx s hs) (by decide) (fun _ v2 q2 => ?_)
    obtain ⟨rfl, e5, ap⟩ := q2
    have e2 := kS5_J e5
    have hu2 := e2.wd hu1
    have E2 := E1.tr e2
    have hr2 := hr.eqJ hg E2
    refine kv_aload_n dX3_claim_26 rfl ?_
    refine kw_gI dX3_claim_27 fX3_140 hu2 (by first | rfl | assumption) rfl rfl ?_
    rw [ap.2.2.1]
    refine kv_aload_n dX3_claim_30 rfl ?_
    refine kw_gI dX3_claim_31 fX3_146 hu2 (by first | rfl | assumption) rfl rfl ?_
    rw [ap.2.2.2.1]
    refine kv_aload_n dX3_claim_34 rfl ?_
    refine kw_gR dX3_claim_35 fX3_18 hu2 (by first | rfl | assumption) rfl rfl (by first | rfl | assumption) ?_
    refine kw_gR dX3_claim_38 fX3_114 hu2 (by first | rfl | assumption) rfl rfl (by first | rfl | assumption) ?_
    refine kv_iconst dX3_claim_41 4 ki_4 ?_
    refine kw_il dX3_claim_42 hu2 (by first | rfl | assumption) (_) (show (4 : Int32) = nI 4 from rfl) (by omega) rfl ?_
    rw [hr2.rate 4 (by decide)]
    refine kv_imul dX3_claim_43 ?_
    refine kv_iadd dX3_claim_44 ?_
    refine kv_iload dX3_claim_45 rfl ?_
    refine kv_imul dX3_claim_47 ?_
    refine kv_bipush dX3_claim_48 100 kb_100 ?_
    refine kv_idiv dX3_claim_50 (by decide) ?_
    exact kv_iret dX3_claim_51 rfl ⟨by unfold kClm; first | rw [if_pos ‹s = 0›] | rw [if_neg ‹¬ s = 0›], E2⟩
  · have hs0 : s = 0 := (kn_eq (by omega) (by omega)).mp h1
    refine kv_bipush dX3_claim_10 100 kb_100 ?_
    refine kv_iload_n dX3_claim_12 rfl ?_
    refine kv_isub dX3_claim_13 ?_
    refine kv_goto dX3_claim_14 18 (by decide) ?_
    refine kv_istore (ls2 := [_, _, _, _, _]) dX3_claim_18 rfl rfl rfl rfl ?_
    refine kv_aload_n dX3_claim_20 rfl ?_
    refine kv_aload_n dX3_claim_21 rfl ?_
    refine kv_iload_n dX3_claim_22 rfl ?_
    refine kw_VQ [_, _] mX3_appraise dX3_claim_23 lX3_152 wX3_appraise kC3 hu1 rfl (by first | rfl | assumption) rfl rfl rfl (qX3_appraise hu1 hr1 hg x hx s hs) (by decide) (fun _ v2 q2 => ?_)
    obtain ⟨rfl, e5, ap⟩ := q2
    have e2 := kS5_J e5
    have hu2 := e2.wd hu1
    have E2 := E1.tr e2
    have hr2 := hr.eqJ hg E2
    refine kv_aload_n dX3_claim_26 rfl ?_
    refine kw_gI dX3_claim_27 fX3_140 hu2 (by first | rfl | assumption) rfl rfl ?_
    rw [ap.2.2.1]
    refine kv_aload_n dX3_claim_30 rfl ?_
    refine kw_gI dX3_claim_31 fX3_146 hu2 (by first | rfl | assumption) rfl rfl ?_
    rw [ap.2.2.2.1]
    refine kv_aload_n dX3_claim_34 rfl ?_
    refine kw_gR dX3_claim_35 fX3_18 hu2 (by first | rfl | assumption) rfl rfl (by first | rfl | assumption) ?_
    refine kw_gR dX3_claim_38 fX3_114 hu2 (by first | rfl | assumption) rfl rfl (by first | rfl | assumption) ?_
    refine kv_iconst dX3_claim_41 4 ki_4 ?_
    refine kw_il dX3_claim_42 hu2 (by first | rfl | assumption) (_) (show (4 : Int32) = nI 4 from rfl) (by omega) rfl ?_
    rw [hr2.rate 4 (by decide)]
    refine kv_imul dX3_claim_43 ?_
    refine kv_iadd dX3_claim_44 ?_
    refine kv_iload dX3_claim_45 rfl ?_
    refine kv_imul dX3_claim_47 ?_
    refine kv_bipush dX3_claim_48 100 kb_100 ?_
    refine kv_idiv dX3_claim_50 (by decide) ?_
    exact kv_iret dX3_claim_51 rfl ⟨by unfold kClm; first | rw [if_pos ‹s = 0›] | rw [if_neg ‹¬ s = 0›], E2⟩
set_option maxRecDepth 20000 in
set_option maxHeartbeats 4000000 in
theorem rX3_disputed {w : KW} {l : Launch} {u : KMem} (hu : kWd u) {g : Nat → Int32} (hr : kRS 1 g u) (hg : kGI g) (e : Nat) (he : e < kN g 4) : KC w l mX3_disputed 5 0 0 [.ref 385, .ref (1 + (152 + e))] u (kp kSJ u (some (.int (@ite _ (kDisp g e) (Classical.propDecidable _) 1 0)))) := by
  have hx20 := (hg.cnt (k := 2) rfl).2
  have hc30 := (hg.cnt (k := 0) rfl).2
  have ht10 := (hg.cnt (k := 3) rfl).2
  have he40 := (hg.cnt (k := 4) rfl).2
  have hs16 := hg.cnt (k := 1) rfl
  have hE := hg.ent he
  have hx := hE.2.1
  have hs := hE.2.2.2
  have ke := ks_entry e (by omega)
  have ke1 := ke.1
  have ke2 := ke.2
  have kx := ks_crash (kN g (1128 + 5 * e + 0)) (by omega)
  have kx1 := kx.1
  have kx2 := kx.2.1
  have kx3 := kx.2.2.1
  have kx4 := kx.2.2.2.1
  have kx5 := kx.2.2.2.2.1
  have kx6 := kx.2.2.2.2.2
  refine KC.of (ls := [_, _, _, _, _, _]) rfl rfl (Nat.le_of_ble_eq_true rfl) ?_
  refine kv_aload_n dX3_disputed_0 rfl ?_
  refine kw_gR dX3_disputed_1 fX3_18 hu (by first | rfl | assumption) rfl rfl (by first | rfl | assumption) ?_
  refine kw_gR dX3_disputed_4 fX3_159 hu (by first | rfl | assumption) rfl rfl (by first | rfl | assumption) ?_
  refine kv_aload_n dX3_disputed_7 rfl ?_
  refine kw_gI dX3_disputed_8 fX3_163 hu (by first | rfl | assumption) rfl rfl ?_
  rw [hr.ent he 0 (by decide), hE.1]
  refine kw_al (t := 1) (n := 20) dX3_disputed_11 hu rfl rfl ((kN g (1128 + 5 * e + 0))) rfl (by omega) rfl (by first | rfl | assumption) ?_
  refine kv_astore_n (ls2 := [_, _, _, _, _, _]) dX3_disputed_12 rfl rfl rfl rfl ?_
  refine kv_aload_n dX3_disputed_13 rfl ?_
  refine kv_aload_n dX3_disputed_14 rfl ?_
  refine kv_aload_n dX3_disputed_15 rfl ?_
  refine kw_gI dX3_disputed_16 fX3_168 hu (by first | rfl | assumption) rfl rfl ?_
  rw [hr.ent he 1 (by decide), hE.2.2.1]
  refine kw_Vpi [_, _] mX3_claim dX3_disputed_19 lX3_171 wX3_claim kC3 hu rfl (by first | rfl | assumption) rfl rfl rfl (rX3_claim hu hr hg _ hx _ hs) (by decide) (fun v1 e1 => ?_)
  have hu1 := e1.wd hu
  have E1 := e1
  have hr1 := hr.eqJ hg E1
  refine kv_istore_n (ls2 := [_, _, _, _, _, _]) dX3_disputed_22 rfl rfl rfl rfl ?_
  refine kv_aload_n dX3_disputed_23 rfl ?_
  refine kw_gR dX3_disputed_24 fX3_18 hu1 (by first | rfl | assumption) rfl rfl (by first | rfl | assumption) ?_
  refine kw_gR dX3_disputed_27 fX3_114 hu1 (by first | rfl | assumption) rfl rfl (by first | rfl | assumption) ?_
  refine kv_iconst dX3_disputed_30 5 ki_5 ?_
  refine kw_il dX3_disputed_31 hu1 (by first | rfl | assumption) (_) (show (5 : Int32) = nI 5 from rfl) (by omega) rfl ?_
  rw [hr1.rate 5 (by decide)]
  refine kv_istore (ls2 := [_, _, _, _, _, _]) dX3_disputed_32 rfl rfl rfl rfl ?_
  refine kv_aload_n dX3_disputed_34 rfl ?_
  refine kv_iconst dX3_disputed_35 2 ki_2 ?_
  refine kv_aload_n dX3_disputed_36 rfl ?_
  refine kw_gI dX3_disputed_37 fX3_68 hu1 (by first | rfl | assumption) rfl rfl ?_
  rw [hr1.day hx]
  refine kw_Vi [_, _] mX3_inForce dX3_disputed_40 lX3_71 wX3_inForce kC3 hu1 rfl (by first | rfl | assumption) rfl rfl rfl (qX3_inForce hu1 hr1 hg _ _) (by decide) ?_
  refine kv_istore (ls2 := [_, _, _, _, _, _]) dX3_disputed_43 rfl rfl rfl rfl ?_
  refine kv_iload dX3_disputed_45 rfl ?_
  refine kv_if_ge dX3_disputed_47 67 (by decide) (fun h1 => ?_) (fun h1 => ?_)
  · have hT := kInF_ge (by omega) h1
    have hc := h1
    refine kv_aload_n dX3_disputed_67 rfl ?_
    refine kv_aload_n dX3_disputed_68 rfl ?_
    refine kw_gI dX3_disputed_69 fX3_175 hu1 (by first | rfl | assumption) rfl rfl ?_
    rw [hr1.ent he 2 (by decide)]
    refine kv_iload_n dX3_disputed_72 rfl ?_
    refine kv_iload dX3_disputed_73 rfl ?_
    refine kv_iconst dX3_disputed_75 0 ki_0 ?_
    refine kw_VQ [_, _, _, _] mX3_name dX3_disputed_76 lX3_82 wX3_name kC3 hu1 rfl (by first | rfl | assumption) rfl rfl rfl (rX3_name hu1 _ _ _ _) (by decide) (fun _ v2 q2 => ?_)
    obtain ⟨rfl, e2, na, nb, nc, nd⟩ := q2
    have hu2 := e2.wd hu1
    have E2 := E1.tr e2
    have hr2 := hr.eqJ hg E2
    refine kv_aload_n dX3_disputed_79 rfl ?_
    refine kv_iload dX3_disputed_80 rfl ?_
    rw [hT.2]
    refine kw_Vpi [_] mX3_follow dX3_disputed_82 lX3_86 wX3_follow kC3 hu2 rfl (by first | rfl | assumption) rfl rfl rfl (rX3_follow hu2 hr2 hg _ hT.1 na nb nc nd) (by decide) (fun v3 e3 => ?_)
    have hu3 := e3.wd hu2
    have E3 := E2.tr e3
    have hr3 := hr.eqJ hg E3
    refine kv_if_eq dX3_disputed_85 92 (by decide) (fun h2 => ?_) (fun h2 => ?_)
    · refine kv_iconst dX3_disputed_92 0 ki_0 ?_
      exact kv_zret dX3_disputed_93 rfl kv_z0 ⟨by first | rw [if_pos (show kDisp g e by unfold kDisp; first | (rw [if_pos hc]; assumption) | (rw [if_neg hc]; assumption))] | rw [if_neg (show ¬ kDisp g e by unfold kDisp; first | (rw [if_pos hc]; exact fun q => q ‹_›) | (rw [if_neg hc]; exact fun q => q ‹_›))], E3⟩
    · refine kv_iconst dX3_disputed_88 1 ki_1 ?_
      refine kv_goto dX3_disputed_89 93 (by decide) ?_
      exact kv_zret dX3_disputed_93 rfl kv_z1 ⟨by first | rw [if_pos (show kDisp g e by unfold kDisp; first | (rw [if_pos hc]; assumption) | (rw [if_neg hc]; assumption))] | rw [if_neg (show ¬ kDisp g e by unfold kDisp; first | (rw [if_pos hc]; exact fun q => q ‹_›) | (rw [if_neg hc]; exact fun q => q ‹_›))], E3⟩
  · have hc := h1
    refine kv_aload_n dX3_disputed_50 rfl ?_
    refine kw_gI dX3_disputed_51 fX3_175 hu1 (by first | rfl | assumption) rfl rfl ?_
    rw [hr1.ent he 2 (by decide)]
    refine kv_iload_n dX3_disputed_54 rfl ?_
    refine kv_iload dX3_disputed_55 rfl ?_
    refine kv_iadd dX3_disputed_57 ?_
    refine kv_icmp_le dX3_disputed_58 65 (by decide) (fun h3 => ?_) (fun h3 => ?_)
    · refine kv_iconst dX3_disputed_65 0 ki_0 ?_
      exact kv_zret dX3_disputed_66 rfl kv_z0 ⟨by first | rw [if_pos (show kDisp g e by unfold kDisp; first | (rw [if_pos hc]; assumption) | (rw [if_neg hc]; assumption))] | rw [if_neg (show ¬ kDisp g e by unfold kDisp; first | (rw [if_pos hc]; exact fun q => q ‹_›) | (rw [if_neg hc]; exact fun q => q ‹_›))], E1⟩
    · refine kv_iconst dX3_disputed_61 1 ki_1 ?_
      refine kv_goto dX3_disputed_62 66 (by decide) ?_
      exact kv_zret dX3_disputed_66 rfl kv_z1 ⟨by first | rw [if_pos (show kDisp g e by unfold kDisp; first | (rw [if_pos hc]; assumption) | (rw [if_neg hc]; assumption))] | rw [if_neg (show ¬ kDisp g e by unfold kDisp; first | (rw [if_pos hc]; exact fun q => q ‹_›) | (rw [if_neg hc]; exact fun q => q ‹_›))], E1⟩
