theorem kWd.si {u : KMem} (h : kWd u) {a k : Nat} {x : Int32} : kWd (kv_si u a k x) := h
theorem kApp_t {g : Nat → Int32} {x s : Nat} (hT : kTot g x s) {u : KMem} : kApp g x s (kv_si (kv_si (kv_si (kv_si (kv_si u 385 3 (kRep g x s)) 385 4 1) 385 5 (kBook g (kCarOf g x s) - kBook g (kCarOf g x s) * g (8 + 3) / 100)) 385 7 0) 385 6 14) := by
  unfold kApp kLoss kHire
  rw [if_pos hT, if_pos hT, if_pos hT, if_pos hT]
  exact ⟨by rw [kv_si_k (by decide), kv_si_k (by decide), kv_si_k (by decide), kv_si_k (by decide), kv_si_s], by rw [kv_si_k (by decide), kv_si_k (by decide), kv_si_k (by decide), kv_si_s], by rw [kv_si_k (by decide), kv_si_k (by decide), kv_si_s], by rw [kv_si_s], by rw [kv_si_k (by decide), kv_si_s]⟩
theorem kApp_f {g : Nat → Int32} {x s : Nat} (hT : ¬ kTot g x s) {u : KMem} : kApp g x s (kv_si (kv_si (kv_si (kv_si (kv_si u 385 3 (kRep g x s)) 385 4 0) 385 5 (kRep g x s)) 385 7 (kZnA g (kFresh g x s) 2 8)) 385 6 (kZnA g (kFresh g x s) 2 8 + (kZnA g (kFresh g x s) 1 8 + 8 - 1) / 8)) := by
  unfold kApp kLoss kHire
  rw [if_neg hT, if_neg hT, if_neg hT, if_neg hT, kn_8m1]
  exact ⟨by rw [kv_si_k (by decide), kv_si_k (by decide), kv_si_k (by decide), kv_si_k (by decide), kv_si_s], by rw [kv_si_k (by decide), kv_si_k (by decide), kv_si_k (by decide), kv_si_s], by rw [kv_si_k (by decide), kv_si_k (by decide), kv_si_s], by rw [kv_si_s]; rfl, by rw [kv_si_k (by decide), kv_si_s]; rfl⟩
set_option maxRecDepth 20000 in
set_option maxHeartbeats 4000000 in
theorem qX3_appraise {w : KW} {l : Launch} {u : KMem} (hu : kWd u) {g : Nat → Int32} (hr : kRS 1 g u) (hg : kGI g) (x : Nat) (hx : x < kN g 2) (s : Nat) (hs : s < 2) : KC w l mX3_appraise 1 0 0 [.ref 385, .ref (1 + (72 + 3 * x)), .int (nI s)] u (fun r v => r = none ∧ kEq kS5 u v ∧ kApp g x s v) := by
  have hx20 := (hg.cnt (k := 2) rfl).2
  have hc30 := (hg.cnt (k := 0) rfl).2
  have ht10 := (hg.cnt (k := 3) rfl).2
  have he40 := (hg.cnt (k := 4) rfl).2
  have hs16 := hg.cnt (k := 1) rfl
  have kx := ks_crash x (by omega)
  have kx1 := kx.1
  have kx2 := kx.2.1
  have kx3 := kx.2.2.1
  have kx4 := kx.2.2.2.1
  have kx5 := kx.2.2.2.2.1
  have kx6 := kx.2.2.2.2.2
  have hco := hg.carOf hx hs
  have kc := ks_car (kCarOf g x s) (by omega)
  have kc1 := kc.1
  have kc2 := kc.2.2.2
  refine KC.of (ls := [_, _, _, _, _, _, _, _]) rfl rfl (Nat.le_of_ble_eq_true rfl) ?_
  refine kv_aload_n dX3_appraise_0 rfl ?_
  refine kv_iload_n dX3_appraise_1 rfl ?_
  refine kw_Vi [_] mX1_freshOf dX3_appraise_2 lX3_117 wX1_freshOf kC1 hu rfl (by first | rfl | assumption) rfl rfl rfl (qX1_freshOf hu hr hg x hx s hs) (by decide) ?_
  refine kv_istore_n (ls2 := [_, _, _, _, _, _, _, _]) dX3_appraise_5 rfl rfl rfl rfl ?_
  refine kv_iconst dX3_appraise_6 0 ki_0 ?_
  refine kv_istore (ls2 := [_, _, _, _, _, _, _, _]) dX3_appraise_7 rfl rfl rfl rfl ?_
  refine kv_iconst dX3_appraise_9 0 ki_0 ?_
  refine kv_istore (ls2 := [_, _, _, _, _, _, _, _]) dX3_appraise_10 rfl rfl rfl rfl ?_
  refine kv_iconst dX3_appraise_12 0 ki_0 ?_
  refine kv_istore (ls2 := [_, _, _, _, _, _, _, _]) dX3_appraise_13 rfl rfl rfl rfl ?_
  refine kv_iconst dX3_appraise_15 0 ki_0 ?_
  refine kv_istore (ls2 := [_, _, _, _, _, _, _, _]) dX3_appraise_16 rfl rfl rfl rfl ?_
  refine KV.loc (ls2 := [some (.ref 385), some (.ref (1 + (72 + 3 * x))), some (.int (nI s)), some (.int (kFresh g x s)), some (.int (kZnA g (kFresh g x s) 0 0)), some (.int (kZnA g (kFresh g x s) 1 0)), some (.int (kZnA g (kFresh g x s) 2 0)), some (.int (nI 0))]) ?_ (ksS (by first | rfl | exact congrArg (fun z => some (Value.int z)) (kZnA_n hg hi hb) | exact congrArg (fun z => some (Value.int z)) (kZnA_y (by decide) hi hb) | exact congrArg (fun z => some (Value.int z)) (kZnA_y2 hi hb)) (ksS (by first | rfl | exact congrArg (fun z => some (Value.int z)) (kZnA_n hg hi hb) | exact congrArg (fun z => some (Value.int z)) (kZnA_y (by decide) hi hb) | exact congrArg (fun z => some (Value.int z)) (kZnA_y2 hi hb)) (ksS (by first | rfl | exact congrArg (fun z => some (Value.int z)) (kZnA_n hg hi hb) | exact congrArg (fun z => some (Value.int z)) (kZnA_y (by decide) hi hb) | exact congrArg (fun z => some (Value.int z)) (kZnA_y2 hi hb)) (ksS (by first | rfl | exact congrArg (fun z => some (Value.int z)) (kZnA_n hg hi hb) | exact congrArg (fun z => some (Value.int z)) (kZnA_y (by decide) hi hb) | exact congrArg (fun z => some (Value.int z)) (kZnA_y2 hi hb)) (ksS (by first | rfl | exact congrArg (fun z => some (Value.int z)) (kZnA_n hg hi hb) | exact congrArg (fun z => some (Value.int z)) (kZnA_y (by decide) hi hb) | exact congrArg (fun z => some (Value.int z)) (kZnA_y2 hi hb)) (ksS (by first | rfl | exact congrArg (fun z => some (Value.int z)) (kZnA_n hg hi hb) | exact congrArg (fun z => some (Value.int z)) (kZnA_y (by decide) hi hb) | exact congrArg (fun z => some (Value.int z)) (kZnA_y2 hi hb)) (ksS (by first | rfl | exact congrArg (fun z => some (Value.int z)) (kZnA_n hg hi hb) | exact congrArg (fun z => some (Value.int z)) (kZnA_y (by decide) hi hb) | exact congrArg (fun z => some (Value.int z)) (kZnA_y2 hi hb)) (ksS (by first | rfl | exact congrArg (fun z => some (Value.int z)) (kZnA_n hg hi hb) | exact congrArg (fun z => some (Value.int z)) (kZnA_y (by decide) hi hb) | exact congrArg (fun z => some (Value.int z)) (kZnA_y2 hi hb)) ksN))))))))
  refine kn_loop (P := fun i => KV w l mX3_appraise 1 0 0 18 [some (.ref 385), some (.ref (1 + (72 + 3 * x))), some (.int (nI s)), some (.int (kFresh g x s)), some (.int (kZnA g (kFresh g x s) 0 i)), some (.int (kZnA g (kFresh g x s) 1 i)), some (.int (kZnA g (kFresh g x s) 2 i)), some (.int (nI i))] [] u (fun r v => r = none ∧ kEq kS5 u v ∧ kApp g x s v)) (8) ?_ (fun i hi ih => ?_)
  · refine kv_iload dX3_appraise_18 rfl ?_
    refine kv_bipush dX3_appraise_20 8 kb_8 ?_
    refine kv_icmp_ge dX3_appraise_22 95 (by decide) (fun h1 => ?_) (fun h1 => ?_)
    · refine kv_aload_n dX3_appraise_95 rfl ?_
      refine kv_aload_n dX3_appraise_96 rfl ?_
      refine kw_gR dX3_appraise_97 fX3_18 hu (by first | rfl | assumption) rfl rfl (by first | rfl | assumption) ?_
      refine kw_gR dX3_appraise_100 fX3_123 hu (by first | rfl | assumption) rfl rfl (by first | rfl | assumption) ?_
      refine kv_aload_n dX3_appraise_103 rfl ?_
      refine kw_gR dX3_appraise_104 fX3_127 hu (by first | rfl | assumption) rfl rfl (by first | rfl | assumption) ?_
      refine kv_iload_n dX3_appraise_107 rfl ?_
      refine kw_il dX3_appraise_108 hu (by first | rfl | assumption) (s) rfl (by omega) rfl ?_
      rw [hr.cc hx s hs, hco.1]
      refine kw_al (t := 0) (n := 30) dX3_appraise_109 hu rfl rfl (kCarOf g x s) rfl (by omega) rfl (by first | rfl | assumption) ?_
      refine kw_Vi [_] mX3_book dX3_appraise_110 lX3_129 wX3_book kC3 hu rfl (by first | rfl | assumption) rfl rfl rfl (qX3_book hu hr hg _ hco.2) (by decide) ?_
      refine kv_istore (ls2 := [_, _, _, _, _, _, _, _]) dX3_appraise_113 rfl rfl rfl rfl ?_
      refine kv_aload_n dX3_appraise_115 rfl ?_
      refine kv_iload dX3_appraise_116 rfl ?_
      refine kv_iload dX3_appraise_118 rfl ?_
      refine kv_aload_n dX3_appraise_120 rfl ?_
      refine kw_gR dX3_appraise_121 fX3_18 hu (by first | rfl | assumption) rfl rfl (by first | rfl | assumption) ?_
      refine kw_gR dX3_appraise_124 fX3_114 hu (by first | rfl | assumption) rfl rfl (by first | rfl | assumption) ?_
      refine kv_iconst dX3_appraise_127 0 ki_0 ?_
      refine kw_il dX3_appraise_128 hu (by first | rfl | assumption) (_) (show (0 : Int32) = nI 0 from rfl) (by omega) rfl ?_
      rw [hr.rate 0 (by decide)]
      refine kv_imul dX3_appraise_129 ?_
      refine kv_iadd dX3_appraise_130 ?_
      refine kw_pI dX3_appraise_131 fX3_133 hu (by first | rfl | assumption) rfl rfl ?_
      have e1 : kZnA g (kFresh g x s) 0 8 + kZnA g (kFresh g x s) 1 8 * g (8 + 0) = kRep g x s := rfl
      rw [e1]
      refine kv_aload_n dX3_appraise_134 rfl ?_
      refine kv_aload_n dX3_appraise_135 rfl ?_
      refine kw_gI dX3_appraise_136 fX3_133 hu (by first | rfl | assumption) rfl rfl ?_
      rw [kv_si_s]
      refine kv_iload dX3_appraise_139 rfl ?_
      refine kv_aload_n dX3_appraise_141 rfl ?_
      refine kw_gR dX3_appraise_142 fX3_18 hu (by first | rfl | assumption) rfl rfl (by first | rfl | assumption) ?_
      refine kw_gR dX3_appraise_145 fX3_114 hu (by first | rfl | assumption) rfl rfl (by first | rfl | assumption) ?_
      refine kv_iconst dX3_appraise_148 2 ki_2 ?_
      refine kw_il dX3_appraise_149 hu (by first | rfl | assumption) (_) (show (2 : Int32) = nI 2 from rfl) (by omega) rfl ?_
      rw [kv_si_a (by decide), hr.rate 2 (by decide)]
      refine kv_imul dX3_appraise_150 ?_
      refine kv_bipush dX3_appraise_151 100 kb_100 ?_
      refine kv_idiv dX3_appraise_153 (by decide) ?_
      refine kv_icmp_le dX3_appraise_154 161 (by decide) (fun h2 => ?_) (fun h2 => ?_)
      · have hT : ¬ kTot g x s := fun q => (kTot_i hg hx hs).mp q h2
        refine kv_iconst dX3_appraise_161 0 ki_0 ?_
        refine kw_pZ dX3_appraise_162 fX3_136 hu (by first | rfl | assumption) rfl rfl (by first | exact Or.inl rfl | exact Or.inr rfl | assumption) ?_
        refine kv_aload_n dX3_appraise_165 rfl ?_
        refine kv_aload_n dX3_appraise_166 rfl ?_
        refine kw_gI dX3_appraise_167 fX3_136 hu (by first | rfl | assumption) rfl rfl ?_
        rw [kv_si_s]
        refine kv_if_eq dX3_appraise_170 194 (by decide) (fun h3 => ?_) (fun h3 => ?_)
        · refine kv_aload_n dX3_appraise_194 rfl ?_
          refine kw_gI dX3_appraise_195 fX3_133 hu (by first | rfl | assumption) rfl rfl ?_
          rw [kv_si_k (k := 4) (j := 3) (by decide), kv_si_s]
          refine kw_pI dX3_appraise_198 fX3_140 hu (by first | rfl | assumption) rfl rfl ?_
          refine kv_aload_n dX3_appraise_201 rfl ?_
          refine kv_aload_n dX3_appraise_202 rfl ?_
          refine kw_gI dX3_appraise_203 fX3_136 hu (by first | rfl | assumption) rfl rfl ?_
          rw [kv_si_k (k := 5) (j := 4) (by decide), kv_si_s]
          refine kv_if_eq dX3_appraise_206 213 (by decide) (fun h4 => ?_) (fun h4 => ?_)
          · refine kv_iload dX3_appraise_213 rfl ?_
            refine kw_pI dX3_appraise_215 fX3_143 hu (by first | rfl | assumption) rfl rfl ?_
            refine kv_aload_n dX3_appraise_218 rfl ?_
            refine kv_aload_n dX3_appraise_219 rfl ?_
            refine kw_gI dX3_appraise_220 fX3_136 hu (by first | rfl | assumption) rfl rfl ?_
            rw [kv_si_k (k := 7) (j := 4) (by decide), kv_si_k (k := 5) (j := 4) (by decide), kv_si_s]
            refine kv_if_eq dX3_appraise_223 231 (by decide) (fun h5 => ?_) (fun h5 => ?_)
            · refine kv_iload dX3_appraise_231 rfl ?_
              refine kv_iload dX3_appraise_233 rfl ?_
              refine kv_bipush dX3_appraise_235 8 kb_8 ?_
              refine kv_iadd dX3_appraise_237 ?_
              refine kv_iconst dX3_appraise_238 1 ki_1 ?_
              refine kv_isub dX3_appraise_239 ?_
              refine kv_bipush dX3_appraise_240 8 kb_8 ?_
              refine kv_idiv dX3_appraise_242 (by decide) ?_
              refine kv_iadd dX3_appraise_243 ?_
              refine kw_pI dX3_appraise_244 fX3_146 hu (by first | rfl | assumption) rfl rfl ?_
              exact kv_vret dX3_appraise_247 rfl ⟨rfl, (((((kEq.rf.si ⟨rfl, by decide⟩).si ⟨rfl, by decide⟩).si ⟨rfl, by decide⟩).si ⟨rfl, by decide⟩).si ⟨rfl, by decide⟩), by first | exact kApp_t hT | exact kApp_f hT⟩
            · exact absurd rfl h5
          · exact absurd rfl h4
        · exact absurd rfl h3
      · have hT : kTot g x s := (kTot_i hg hx hs).mpr h2
        refine kv_iconst dX3_appraise_157 1 ki_1 ?_
        refine kv_goto dX3_appraise_158 162 (by decide) ?_
        refine kw_pZ dX3_appraise_162 fX3_136 hu (by first | rfl | assumption) rfl rfl (by first | exact Or.inl rfl | exact Or.inr rfl | assumption) ?_
        refine kv_aload_n dX3_appraise_165 rfl ?_
        refine kv_aload_n dX3_appraise_166 rfl ?_
        refine kw_gI dX3_appraise_167 fX3_136 hu (by first | rfl | assumption) rfl rfl ?_
        rw [kv_si_s]
        refine kv_if_eq dX3_appraise_170 194 (by decide) (fun h6 => ?_) (fun h6 => ?_)
        · exact absurd h6 (by decide)
        · refine kv_iload dX3_appraise_173 rfl ?_
          refine kv_iload dX3_appraise_175 rfl ?_
          refine kv_aload_n dX3_appraise_177 rfl ?_
          refine kw_gR dX3_appraise_178 fX3_18 hu (by first | rfl | assumption) rfl rfl (by first | rfl | assumption) ?_
          refine kw_gR dX3_appraise_181 fX3_114 hu (by first | rfl | assumption) rfl rfl (by first | rfl | assumption) ?_
          refine kv_iconst dX3_appraise_184 3 ki_3 ?_
          refine kw_il dX3_appraise_185 hu (by first | rfl | assumption) (_) (show (3 : Int32) = nI 3 from rfl) (by omega) rfl ?_
          rw [kv_si_a (by decide), kv_si_a (by decide), hr.rate 3 (by decide)]
          refine kv_imul dX3_appraise_186 ?_
          refine kv_bipush dX3_appraise_187 100 kb_100 ?_
          refine kv_idiv dX3_appraise_189 (by decide) ?_
          refine kv_isub dX3_appraise_190 ?_
          refine kv_goto dX3_appraise_191 198 (by decide) ?_
          refine kw_pI dX3_appraise_198 fX3_140 hu (by first | rfl | assumption) rfl rfl ?_
          refine kv_aload_n dX3_appraise_201 rfl ?_
          refine kv_aload_n dX3_appraise_202 rfl ?_
          refine kw_gI dX3_appraise_203 fX3_136 hu (by first | rfl | assumption) rfl rfl ?_
          rw [kv_si_k (k := 5) (j := 4) (by decide), kv_si_s]
          refine kv_if_eq dX3_appraise_206 213 (by decide) (fun h7 => ?_) (fun h7 => ?_)
          · exact absurd h7 (by decide)
          · refine kv_iconst dX3_appraise_209 0 ki_0 ?_
            refine kv_goto dX3_appraise_210 215 (by decide) ?_
            refine kw_pI dX3_appraise_215 fX3_143 hu (by first | rfl | assumption) rfl rfl ?_
            refine kv_aload_n dX3_appraise_218 rfl ?_
            refine kv_aload_n dX3_appraise_219 rfl ?_
            refine kw_gI dX3_appraise_220 fX3_136 hu (by first | rfl | assumption) rfl rfl ?_
            rw [kv_si_k (k := 7) (j := 4) (by decide), kv_si_k (k := 5) (j := 4) (by decide), kv_si_s]
            refine kv_if_eq dX3_appraise_223 231 (by decide) (fun h8 => ?_) (fun h8 => ?_)
            · exact absurd h8 (by decide)
            · refine kv_bipush dX3_appraise_226 14 kb_14 ?_
              refine kv_goto dX3_appraise_228 244 (by decide) ?_
              refine kw_pI dX3_appraise_244 fX3_146 hu (by first | rfl | assumption) rfl rfl ?_
              exact kv_vret dX3_appraise_247 rfl ⟨rfl, (((((kEq.rf.si ⟨rfl, by decide⟩).si ⟨rfl, by decide⟩).si ⟨rfl, by decide⟩).si ⟨rfl, by decide⟩).si ⟨rfl, by decide⟩), by first | exact kApp_t hT | exact kApp_f hT⟩
    · exact (kn_nge h1).elim
  · refine kv_iload dX3_appraise_18 rfl ?_
    refine kv_bipush dX3_appraise_20 8 kb_8 ?_
    refine kv_icmp_ge dX3_appraise_22 95 (by decide) (fun h9 => ?_) (fun h9 => ?_)
    · exact absurd h9 (kn_ge (n := 8) hi (by omega))
    · refine kv_iload_n dX3_appraise_25 rfl ?_
      refine kv_iload dX3_appraise_26 rfl ?_
      refine kv_ishr dX3_appraise_28 ?_
      refine kv_iconst dX3_appraise_29 1 ki_1 ?_
      refine kv_iand dX3_appraise_30 ?_
      refine kv_if_eq dX3_appraise_31 89 (by decide) (fun h10 => ?_) (fun h10 => ?_)
      · have hb := h10
        refine kv_iinc (ls2 := [_, _, _, _, _, _, _, _]) dX3_appraise_89 (nI (i + 1)) rfl (kv_inc1 i) rfl rfl rfl rfl ?_
        refine kv_goto dX3_appraise_92 18 (by decide) ?_
        exact KV.loc ih (ksS (by first | rfl | exact congrArg (fun z => some (Value.int z)) (kZnA_n hg hi hb) | exact congrArg (fun z => some (Value.int z)) (kZnA_y (by decide) hi hb) | exact congrArg (fun z => some (Value.int z)) (kZnA_y2 hi hb)) (ksS (by first | rfl | exact congrArg (fun z => some (Value.int z)) (kZnA_n hg hi hb) | exact congrArg (fun z => some (Value.int z)) (kZnA_y (by decide) hi hb) | exact congrArg (fun z => some (Value.int z)) (kZnA_y2 hi hb)) (ksS (by first | rfl | exact congrArg (fun z => some (Value.int z)) (kZnA_n hg hi hb) | exact congrArg (fun z => some (Value.int z)) (kZnA_y (by decide) hi hb) | exact congrArg (fun z => some (Value.int z)) (kZnA_y2 hi hb)) (ksS (by first | rfl | exact congrArg (fun z => some (Value.int z)) (kZnA_n hg hi hb) | exact congrArg (fun z => some (Value.int z)) (kZnA_y (by decide) hi hb) | exact congrArg (fun z => some (Value.int z)) (kZnA_y2 hi hb)) (ksS (by first | rfl | exact congrArg (fun z => some (Value.int z)) (kZnA_n hg hi hb) | exact congrArg (fun z => some (Value.int z)) (kZnA_y (by decide) hi hb) | exact congrArg (fun z => some (Value.int z)) (kZnA_y2 hi hb)) (ksS (by first | rfl | exact congrArg (fun z => some (Value.int z)) (kZnA_n hg hi hb) | exact congrArg (fun z => some (Value.int z)) (kZnA_y (by decide) hi hb) | exact congrArg (fun z => some (Value.int z)) (kZnA_y2 hi hb)) (ksS (by first | rfl | exact congrArg (fun z => some (Value.int z)) (kZnA_n hg hi hb) | exact congrArg (fun z => some (Value.int z)) (kZnA_y (by decide) hi hb) | exact congrArg (fun z => some (Value.int z)) (kZnA_y2 hi hb)) (ksS (by first | rfl | exact congrArg (fun z => some (Value.int z)) (kZnA_n hg hi hb) | exact congrArg (fun z => some (Value.int z)) (kZnA_y (by decide) hi hb) | exact congrArg (fun z => some (Value.int z)) (kZnA_y2 hi hb)) ksN))))))))
      · have hb := h10
        refine kv_iload dX3_appraise_34 rfl ?_
        refine kv_aload_n dX3_appraise_36 rfl ?_
        refine kw_gR dX3_appraise_37 fX3_18 hu (by first | rfl | assumption) rfl rfl (by first | rfl | assumption) ?_
        refine kw_gR dX3_appraise_40 fX3_120 hu (by first | rfl | assumption) rfl rfl (by first | rfl | assumption) ?_
        refine kv_iconst dX3_appraise_43 0 ki_0 ?_
        refine kv_iload dX3_appraise_44 rfl ?_
        refine kv_iadd dX3_appraise_46 ?_
        refine kw_il dX3_appraise_47 hu (by first | rfl | assumption) (8 * 0 + i) (kn_add (show (0 : Int32) = nI 0 from rfl) rfl) (by omega) rfl ?_
        rw [hr.zone hi 0 (by decide)]
        refine kv_iadd dX3_appraise_48 ?_
        refine kv_istore (ls2 := [_, _, _, _, _, _, _, _]) dX3_appraise_49 rfl rfl rfl rfl ?_
        refine kv_iload dX3_appraise_51 rfl ?_
        refine kv_aload_n dX3_appraise_53 rfl ?_
        refine kw_gR dX3_appraise_54 fX3_18 hu (by first | rfl | assumption) rfl rfl (by first | rfl | assumption) ?_
        refine kw_gR dX3_appraise_57 fX3_120 hu (by first | rfl | assumption) rfl rfl (by first | rfl | assumption) ?_
        refine kv_bipush dX3_appraise_60 8 kb_8 ?_
        refine kv_iload dX3_appraise_62 rfl ?_
        refine kv_iadd dX3_appraise_64 ?_
        refine kw_il dX3_appraise_65 hu (by first | rfl | assumption) (8 * 1 + i) (kn_add (show (8 : Int32) = nI 8 from rfl) rfl) (by omega) rfl ?_
        rw [hr.zone hi 1 (by decide)]
        refine kv_iadd dX3_appraise_66 ?_
        refine kv_istore (ls2 := [_, _, _, _, _, _, _, _]) dX3_appraise_67 rfl rfl rfl rfl ?_
        refine kv_iload dX3_appraise_69 rfl ?_
        refine kv_aload_n dX3_appraise_71 rfl ?_
        refine kw_gR dX3_appraise_72 fX3_18 hu (by first | rfl | assumption) rfl rfl (by first | rfl | assumption) ?_
        refine kw_gR dX3_appraise_75 fX3_120 hu (by first | rfl | assumption) rfl rfl (by first | rfl | assumption) ?_
        refine kv_bipush dX3_appraise_78 16 kb_16 ?_
        refine kv_iload dX3_appraise_80 rfl ?_
        refine kv_iadd dX3_appraise_82 ?_
        refine kw_il dX3_appraise_83 hu (by first | rfl | assumption) (8 * 2 + i) (kn_add (show (16 : Int32) = nI 16 from rfl) rfl) (by omega) rfl ?_
        rw [hr.zone hi 2 (by decide)]
        refine kw_mmax dX3_appraise_84 lX3_55 rfl (by omega) ?_
        refine kv_istore (ls2 := [_, _, _, _, _, _, _, _]) dX3_appraise_87 rfl rfl rfl rfl ?_
        refine kv_iinc (ls2 := [_, _, _, _, _, _, _, _]) dX3_appraise_89 (nI (i + 1)) rfl (kv_inc1 i) rfl rfl rfl rfl ?_
        refine kv_goto dX3_appraise_92 18 (by decide) ?_
        exact KV.loc ih (ksS (by first | rfl | exact congrArg (fun z => some (Value.int z)) (kZnA_n hg hi hb) | exact congrArg (fun z => some (Value.int z)) (kZnA_y (by decide) hi hb) | exact congrArg (fun z => some (Value.int z)) (kZnA_y2 hi hb)) (ksS (by first | rfl | exact congrArg (fun z => some (Value.int z)) (kZnA_n hg hi hb) | exact congrArg (fun z => some (Value.int z)) (kZnA_y (by decide) hi hb) | exact congrArg (fun z => some (Value.int z)) (kZnA_y2 hi hb)) (ksS (by first | rfl | exact congrArg (fun z => some (Value.int z)) (kZnA_n hg hi hb) | exact congrArg (fun z => some (Value.int z)) (kZnA_y (by decide) hi hb) | exact congrArg (fun z => some (Value.int z)) (kZnA_y2 hi hb)) (ksS (by first | rfl | exact congrArg (fun z => some (Value.int z)) (kZnA_n hg hi hb) | exact congrArg (fun z => some (Value.int z)) (kZnA_y (by decide) hi hb) | exact congrArg (fun z => some (Value.int z)) (kZnA_y2 hi hb)) (ksS (by first | rfl | exact congrArg (fun z => some (Value.int z)) (kZnA_n hg hi hb) | exact congrArg (fun z => some (Value.int z)) (kZnA_y (by decide) hi hb) | exact congrArg (fun z => some (Value.int z)) (kZnA_y2 hi hb)) (ksS (by first | rfl | exact congrArg (fun z => some (Value.int z)) (kZnA_n hg hi hb) | exact congrArg (fun z => some (Value.int z)) (kZnA_y (by decide) hi hb) | exact congrArg (fun z => some (Value.int z)) (kZnA_y2 hi hb)) (ksS (by first | rfl | exact congrArg (fun z => some (Value.int z)) (kZnA_n hg hi hb) | exact congrArg (fun z => some (Value.int z)) (kZnA_y (by decide) hi hb) | exact congrArg (fun z => some (Value.int z)) (kZnA_y2 hi hb)) (ksS (by first | rfl | exact congrArg (fun z => some (Value.int z)) (kZnA_n hg hi hb) | exact congrArg (fun z => some (Value.int z)) (kZnA_y (by decide) hi hb) | exact congrArg (fun z => some (Value.int z)) (kZnA_y2 hi hb)) ksN))))))))

