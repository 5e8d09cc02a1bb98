set_option maxRecDepth 20000 in
set_option maxHeartbeats 4000000 in
theorem qX12_check {w : KW} {l : Launch} {u : KMem} (hu : kWd u) {a : KA} (hm : kRM a u) (ho : kOk a) (p0 : Int32) : KC w l mX12_check 10 0 0 [.ref 413, .int p0] u (kOM u (kcheck a p0).1 (kcheck a p0).2) := by
  have eg := hm.1
  have hg := ho.1
  have hx20 := (hg.cnt (k := 2) rfl).2
  have hc30 := (hg.cnt (k := 0) rfl).2
  have ht10 := (hg.cnt (k := 3) rfl).2
  have he40 := (hg.cnt (k := 4) rfl).2
  have hs16 := hg.cnt (k := 1) rfl
  have hw := hg.cnt (k := 6) rfl
  have hg1 : kGI (kchkG a) := hg.untell (fun i hi => kSet_n hi) ⟨0, by omega, by unfold kchkG; rw [kSet_s]; rfl⟩ (by unfold kN kchkG; rw [kSet_s]; rfl)
  have ho1 : kOk (kUp1 a 0 (kchkG a)) := ho.now hg1
  refine KC.of (ls := [_, _, _, _, _, _, _]) rfl rfl (Nat.le_of_ble_eq_true rfl) ?_
  refine kv_aload_n dX12_check_0 rfl ?_
  refine kw_gR dX12_check_1 fX12_9 hu (by first | rfl | assumption) rfl rfl (by first | rfl | assumption) ?_
  refine kv_bipush dX12_check_4 6 kb_6 ?_
  refine kw_ig dX12_check_6 hu eg rfl (_) (show (6 : Int32) = nI 6 from rfl) (by omega) rfl ?_
  rw [hw.1]
  refine kv_istore_n (ls2 := [_, _, _, _, _, _, _]) dX12_check_7 rfl rfl rfl rfl ?_
  refine kv_aload_n dX12_check_8 rfl ?_
  refine kw_gR dX12_check_9 fX12_9 hu (by first | rfl | assumption) rfl rfl (by first | rfl | assumption) ?_
  refine kv_bipush dX12_check_12 6 kb_6 ?_
  refine kv_iconst dX12_check_14 0 ki_0 ?_
  refine kw_isg dX12_check_15 hu eg (fun _ _ => rfl) (_) (show (6 : Int32) = nI 6 from rfl) (by omega) (fun vw1 huw1 egw1 evw1 => ?_)
  have hm1 : kRM (kUp1 a 0 (kchkG a)) vw1 := hm.now egw1 (fun b hb => evw1 b (by omega)) (evw1 413 (by omega))
  refine kv_iload_n dX12_check_16 rfl ?_
  refine kw_Si [_] mX12_isMonth dX12_check_17 lX12_317 wX12_isMonth rfl rfl rfl (qX12_isMonth (by exact huw1) _) (by decide) ?_
  refine kw_bne dX12_check_20 30 (by decide) (fun h1 => ?_) (fun h1 => ?_)
  · have hS : kcheck a p0 = _ := if_neg (kIn_y h1)
    refine kv_aload_n dX12_check_30 rfl ?_
    refine kv_iload_n dX12_check_31 rfl ?_
    refine kw_VQ [_] mX12_findPositions dX12_check_32 lX12_320 wX12_findPositions kC12 huw1 rfl (by first | rfl | assumption) rfl rfl rfl (qX12_findPositions huw1 egw1 hg1 p0) (by decide) (fun _ v1 q1 => ?_)
    obtain ⟨rfl, eL, hp⟩ := q1
    have e1 := kSQ_M eL
    have hu1 := e1.wd huw1
    have E1 := e1
    have eg1 : v1.2.1 414 = kchkG a := (E1.row kSM_now).trans egw1
    refine kv_iconst dX12_check_35 0 ki_0 ?_
    refine kv_istore_n (ls2 := [_, _, _, _, _, _, _]) dX12_check_36 rfl rfl rfl rfl ?_
    refine KV.loc (ls2 := [some (.ref 413), some (.int p0), some (.int (nI (kN (a 0) 6))), some (.int (nI (3 * 0))), none, none, none]) ?_ (ksS rfl (ksS rfl (ksS rfl (ksS rfl (ks0 (ks0 (ks0 ksN)))))))
    refine kn_loop (P := fun i => ∀ v : KMem, kEq kSQ vw1 v → (∀ k, k < 11 → v.2.2.1 421 k = kPayA (fun i => a 0 (1388 + i)) (kPosA (kchkG a) p0 (kN (kchkG a) 4)) i k) → (∀ j, j < 3 * i → ¬ kBad (fun i => a 0 (1388 + i)) j) → KV w l mX12_check 10 0 0 37 [some (.ref 413), some (.int p0), some (.int (nI (kN (a 0) 6))), some (.int (nI (3 * i))), none, none, none] [] v (kOM u (kcheck a p0).1 (kcheck a p0).2)) (kN (a 0) 6 / 3) ?_ (fun i hi ih => ?_) v1 eL hp (fun j hj => absurd hj (Nat.not_lt_zero j))
    · intro v E hP hNB
      have hv := E.wd huw1
      have egv : v.2.1 414 = kchkG a := (E.row kSQ_now).trans egw1
      obtain ⟨i, hi⟩ : ∃ i, i = kN (a 0) 6 / 3 := ⟨_, rfl⟩
      rw [← hi] at hP hNB ⊢
      refine kv_iload_n dX12_check_37 rfl ?_
      refine kv_iload_n dX12_check_38 rfl ?_
      refine kv_icmp_ge dX12_check_39 183 (by decide) (fun h2 => ?_) (fun h2 => ?_)
      · have hz : kN (a 0) 6 % 3 = 0 := by
          have := (nI_leI (by omega) (by omega)).mp h2
          omega
        have hFW : kFW (fun i => a 0 (1388 + i)) (kN (a 0) 6) = kN (a 0) 6 := kFW_no (fun j hj => hNB j (by omega))
        have hc0 : ¬ (kFW (fun i => a 0 (1388 + i)) (kN (a 0) 6) < kN (a 0) 6 ∨ ¬ kN (a 0) 6 % 3 = 0) := by omega
        refine kv_iconst dX12_check_183 1 ki_1 ?_
        refine kv_istore_n (ls2 := [_, _, _, _, _, _, _]) dX12_check_184 rfl rfl rfl rfl ?_
        refine kv_iconst dX12_check_185 0 ki_0 ?_
        refine kv_istore (ls2 := [_, _, _, _, _, _, _]) dX12_check_186 rfl rfl rfl rfl ?_
        refine KV.loc (ls2 := [some (.ref 413), some (.int p0), some (.int (nI (kN (a 0) 6))), some (.int (@ite _ (∀ j, j < 0 → kPayA (fun i => a 0 (1388 + i)) (kPosA (kchkG a) p0 (kN (kchkG a) 4)) i j = 0) (Classical.propDecidable _) 1 0)), some (.int (nI (0))), none, none]) ?_ (ksS rfl (ksS rfl (ksS rfl (ksS (congrArg (fun z => some (Value.int z)) (if_pos (fun j hj => absurd hj (Nat.not_lt_zero j))).symm) (ksS rfl (ks0 (ks0 ksN)))))))
        refine kn_loop (P := fun k => KV w l mX12_check 10 0 0 188 [some (.ref 413), some (.int p0), some (.int (nI (kN (a 0) 6))), some (.int (@ite _ (∀ j, j < k → kPayA (fun i => a 0 (1388 + i)) (kPosA (kchkG a) p0 (kN (kchkG a) 4)) i j = 0) (Classical.propDecidable _) 1 0)), some (.int (nI k)), none, none] [] v (kOM u (kcheck a p0).1 (kcheck a p0).2)) (11) ?_ (fun k hk ih => ?_)
        · refine kv_iload dX12_check_188 rfl ?_
          refine kv_bipush dX12_check_190 11 kb_11 ?_
          refine kv_icmp_ge dX12_check_192 223 (by decide) (fun h3 => ?_) (fun h3 => ?_)
          · refine kv_iload_n dX12_check_223 rfl ?_
            refine kw_beq dX12_check_224 231 (by decide) (fun h4 => ?_) (fun h4 => ?_)
            · refine kv_iconst dX12_check_231 1 ki_1 ?_
              refine kv_iload_n dX12_check_232 rfl ?_
              refine kv_iadd dX12_check_233 ?_
              exact kv_iret dX12_check_234 rfl (by rw [hS]; exact kOM.pre (fun b hb => evw1 b (by omega)) (kOM.id hm1 huw1 (kSQ_M E) (by unfold kChkV; rw [if_neg hc0, ← hi]; first | exact (if_pos ‹_›).symm | exact (kn_add (show (1 : Int32) = nI 1 from rfl) rfl).trans (if_neg ‹_›).symm)))
            · refine kv_iconst dX12_check_227 0 ki_0 ?_
              refine kv_goto dX12_check_228 234 (by decide) ?_
              exact kv_iret dX12_check_234 rfl (by rw [hS]; exact kOM.pre (fun b hb => evw1 b (by omega)) (kOM.id hm1 huw1 (kSQ_M E) (by unfold kChkV; rw [if_neg hc0, ← hi]; first | exact (if_pos ‹_›).symm | exact (kn_add (show (1 : Int32) = nI 1 from rfl) rfl).trans (if_neg ‹_›).symm)))
          · exact absurd (Int32.le_refl (nI 11)) h3
        · refine kv_iload dX12_check_188 rfl ?_
          refine kv_bipush dX12_check_190 11 kb_11 ?_
          refine kv_icmp_ge dX12_check_192 223 (by decide) (fun h5 => ?_) (fun h5 => ?_)
          · exact absurd h5 (kn_ge (n := 11) hk (by omega))
          · refine kv_iload_n dX12_check_195 rfl ?_
            refine kw_beq dX12_check_196 215 (by decide) (fun h6 => ?_) (fun h6 => ?_)
            · have fl : ¬ ∀ j, j < k + 1 → kPayA (fun i => a 0 (1388 + i)) (kPosA (kchkG a) p0 (kN (kchkG a) 4)) i j = 0 := fun q => h6 (fun j hj => q j (by omega))
              refine kv_iconst dX12_check_215 0 ki_0 ?_
              refine kv_istore_n (ls2 := [_, _, _, _, _, _, _]) dX12_check_216 rfl rfl rfl rfl ?_
              refine kv_iinc (ls2 := [_, _, _, _, _, _, _]) dX12_check_217 (nI (k + 1)) rfl (kv_inc1 k) rfl rfl rfl rfl ?_
              refine kv_goto dX12_check_220 188 (by decide) ?_
              exact KV.loc ih (ksS (by first | rfl | exact congrArg (fun z => some (Value.int z)) (if_pos fl).symm | exact congrArg (fun z => some (Value.int z)) (if_neg fl).symm) (ksS (by first | rfl | exact congrArg (fun z => some (Value.int z)) (if_pos fl).symm | exact congrArg (fun z => some (Value.int z)) (if_neg fl).symm) (ksS (by first | rfl | exact congrArg (fun z => some (Value.int z)) (if_pos fl).symm | exact congrArg (fun z => some (Value.int z)) (if_neg fl).symm) (ksS (by first | rfl | exact congrArg (fun z => some (Value.int z)) (if_pos fl).symm | exact congrArg (fun z => some (Value.int z)) (if_neg fl).symm) (ksS (by first | rfl | exact congrArg (fun z => some (Value.int z)) (if_pos fl).symm | exact congrArg (fun z => some (Value.int z)) (if_neg fl).symm) (ks0 (ks0 ksN)))))))
            · have f0 := h6
              refine kv_aload_n dX12_check_199 rfl ?_
              refine kw_gR dX12_check_200 fX12_40 hv (by first | rfl | assumption) rfl rfl (by first | rfl | assumption) ?_
              refine kv_iload dX12_check_203 rfl ?_
              refine kw_ll dX12_check_205 hv (by first | rfl | assumption) (k) rfl (by omega) rfl ?_
              rw [hP k (by omega)]
              refine kv_lconst dX12_check_206 0 kl_0 ?_
              refine kv_lcmp dX12_check_207 ?_
              refine kv_if_ne dX12_check_208 215 (by decide) (fun h7 => ?_) (fun h7 => ?_)
              · have fl : ¬ ∀ j, j < k + 1 → kPayA (fun i => a 0 (1388 + i)) (kPosA (kchkG a) p0 (kN (kchkG a) 4)) i j = 0 := fun q => h7 ((lg_cmp_eq _ _).mpr (q k (by omega)))
                refine kv_iconst dX12_check_215 0 ki_0 ?_
                refine kv_istore_n (ls2 := [_, _, _, _, _, _, _]) dX12_check_216 rfl rfl rfl rfl ?_
                refine kv_iinc (ls2 := [_, _, _, _, _, _, _]) dX12_check_217 (nI (k + 1)) rfl (kv_inc1 k) rfl rfl rfl rfl ?_
                refine kv_goto dX12_check_220 188 (by decide) ?_
                exact KV.loc ih (ksS (by first | rfl | exact congrArg (fun z => some (Value.int z)) (if_pos fl).symm | exact congrArg (fun z => some (Value.int z)) (if_neg fl).symm) (ksS (by first | rfl | exact congrArg (fun z => some (Value.int z)) (if_pos fl).symm | exact congrArg (fun z => some (Value.int z)) (if_neg fl).symm) (ksS (by first | rfl | exact congrArg (fun z => some (Value.int z)) (if_pos fl).symm | exact congrArg (fun z => some (Value.int z)) (if_neg fl).symm) (ksS (by first | rfl | exact congrArg (fun z => some (Value.int z)) (if_pos fl).symm | exact congrArg (fun z => some (Value.int z)) (if_neg fl).symm) (ksS (by first | rfl | exact congrArg (fun z => some (Value.int z)) (if_pos fl).symm | exact congrArg (fun z => some (Value.int z)) (if_neg fl).symm) (ks0 (ks0 ksN)))))))
              · have fl : ∀ j, j < k + 1 → kPayA (fun i => a 0 (1388 + i)) (kPosA (kchkG a) p0 (kN (kchkG a) 4)) i j = 0 := fun j hj => by
                  by_cases q : j = k
                  · rw [q]; exact (lg_cmp_eq _ _).mp h7
                  · exact f0 j (by omega)
                refine kv_iconst dX12_check_211 1 ki_1 ?_
                refine kv_goto dX12_check_212 216 (by decide) ?_
                refine kv_istore_n (ls2 := [_, _, _, _, _, _, _]) dX12_check_216 rfl rfl rfl rfl ?_
                refine kv_iinc (ls2 := [_, _, _, _, _, _, _]) dX12_check_217 (nI (k + 1)) rfl (kv_inc1 k) rfl rfl rfl rfl ?_
                refine kv_goto dX12_check_220 188 (by decide) ?_
                exact KV.loc ih (ksS (by first | rfl | exact congrArg (fun z => some (Value.int z)) (if_pos fl).symm | exact congrArg (fun z => some (Value.int z)) (if_neg fl).symm) (ksS (by first | rfl | exact congrArg (fun z => some (Value.int z)) (if_pos fl).symm | exact congrArg (fun z => some (Value.int z)) (if_neg fl).symm) (ksS (by first | rfl | exact congrArg (fun z => some (Value.int z)) (if_pos fl).symm | exact congrArg (fun z => some (Value.int z)) (if_neg fl).symm) (ksS (by first | rfl | exact congrArg (fun z => some (Value.int z)) (if_pos fl).symm | exact congrArg (fun z => some (Value.int z)) (if_neg fl).symm) (ksS (by first | rfl | exact congrArg (fun z => some (Value.int z)) (if_pos fl).symm | exact congrArg (fun z => some (Value.int z)) (if_neg fl).symm) (ks0 (ks0 ksN)))))))
      · have hz : 3 * i < kN (a 0) 6 := Nat.lt_of_not_le (fun q => h2 (nI_le q (by omega)))
        refine kv_aload_n dX12_check_42 rfl ?_
        refine kw_gR dX12_check_43 fX12_9 hv (by first | rfl | assumption) rfl rfl (by first | rfl | assumption) ?_
        refine kv_sipush dX12_check_46 1388 kz_1388 ?_
        refine kv_iload_n dX12_check_49 rfl ?_
        refine kv_iadd dX12_check_50 ?_
        refine kw_ig dX12_check_51 hv egv rfl (1388 + 3 * i) (kn_add (show (1388 : Int32) = nI 1388 from rfl) rfl) (by omega) rfl ?_
        rw [show kchkG a (1388 + 3 * i) = a 0 (1388 + 3 * i) from kSet_n (by omega)]
        refine kv_istore (ls2 := [_, _, _, _, _, _, _]) dX12_check_52 rfl rfl rfl rfl ?_
        refine kv_iload_n dX12_check_54 rfl ?_
        refine kv_iconst dX12_check_55 1 ki_1 ?_
        refine kv_iadd dX12_check_56 ?_
        refine kv_iload_n dX12_check_57 rfl ?_
        rw [show (nI (3 * i) + 1 : Int32) = nI (3 * i + 1) from kn_add rfl (show (1 : Int32) = nI 1 from rfl)]
        refine kv_icmp_ge dX12_check_58 76 (by decide) (fun h8 => ?_) (fun h8 => ?_)
        · have hy : kN (a 0) 6 ≤ 3 * i + 1 := (nI_leI (by omega) (by omega)).mp h8
          refine kv_iconst dX12_check_76 (-1) ki_m1 ?_
          refine kv_istore (ls2 := [_, _, _, _, _, _, _]) dX12_check_77 rfl rfl rfl rfl ?_
          refine kv_iload_n dX12_check_79 rfl ?_
          refine kv_iconst dX12_check_80 2 ki_2 ?_
          refine kv_iadd dX12_check_81 ?_
          refine kv_iload_n dX12_check_82 rfl ?_
          rw [show (nI (3 * i) + 2 : Int32) = nI (3 * i + 2) from kn_add rfl (show (2 : Int32) = nI 2 from rfl)]
          refine kv_icmp_ge dX12_check_83 101 (by decide) (fun h9 => ?_) (fun h9 => ?_)
          · refine kv_iconst dX12_check_101 0 ki_0 ?_
            refine kv_istore (ls2 := [_, _, _, _, _, _, _]) dX12_check_102 rfl rfl rfl rfl ?_
            refine kv_iload dX12_check_104 rfl ?_
            refine kv_iconst dX12_check_106 0 ki_0 ?_
            refine kv_bipush dX12_check_107 10 kb_10 ?_
            refine kw_Si [_, _, _] mX12_within dX12_check_109 lX12_78 wX12_within rfl rfl rfl (qX12_within (by exact hv) _ _ _) (by decide) ?_
            refine kw_bne dX12_check_112 119 (by decide) (fun h10 => ?_) (fun h10 => ?_)
            · obtain ⟨A, hA10, eA⟩ := kOut.bd (n := 10) (by omega) (kIn_y h10)
              have na := kIn_y h10
              have hNB1 : ∀ j, j < 3 * i + 1 → ¬ kBad (fun i => a 0 (1388 + i)) j := by
                intro j hj
                by_cases q : j = 3 * i
                · rw [q]
                  rintro (⟨q1, q2⟩ | ⟨q1, q2 | ⟨q3, q4⟩⟩)
                  · omega
                  · exact na q2
                  · omega
                · exact hNB j (by omega)
              refine kv_iload dX12_check_119 rfl ?_
              refine kv_iconst dX12_check_121 0 ki_0 ?_
              refine kv_bipush dX12_check_122 10 kb_10 ?_
              refine kw_Si [_, _, _] mX12_within dX12_check_124 lX12_78 wX12_within rfl rfl rfl (qX12_within (by exact hv) _ _ _) (by decide) ?_
              refine kw_beq dX12_check_127 137 (by decide) (fun h11 => ?_) (fun h11 => ?_)
              · have hA : kFW (fun i => a 0 (1388 + i)) (kN (a 0) 6) = 3 * i + 1 := (kFW_no (fun j hj => hNB1 j (by omega))).trans (by omega)
                have hc : kFW (fun i => a 0 (1388 + i)) (kN (a 0) 6) < kN (a 0) 6 ∨ ¬ kN (a 0) 6 % 3 = 0 := Or.inr (by omega)
                refine kv_iconst dX12_check_137 2 ki_2 ?_
                refine kv_iload_n dX12_check_138 rfl ?_
                refine kv_iadd dX12_check_139 ?_
                exact kv_iret dX12_check_140 rfl (by rw [hS]; exact kOM.pre (fun b hb => evw1 b (by omega)) (kOM.id hm1 huw1 (kSQ_M E) (by unfold kChkV; rw [if_pos hc, hA]; exact (kn_add (show (2 : Int32) = nI 2 from rfl) rfl).trans (congrArg nI (by omega)))))
              · exact absurd h11 (by decide)
            · have hA : kFW (fun i => a 0 (1388 + i)) (kN (a 0) 6) = 3 * i := kFW_is (by omega) (Or.inr ⟨by omega, Or.inl (kIn_n h10)⟩) hNB
              have hc : kFW (fun i => a 0 (1388 + i)) (kN (a 0) 6) < kN (a 0) 6 ∨ ¬ kN (a 0) 6 % 3 = 0 := Or.inl (by omega)
              refine kv_iconst dX12_check_115 1 ki_1 ?_
              refine kv_iload_n dX12_check_116 rfl ?_
              refine kv_iadd dX12_check_117 ?_
              exact kv_iret dX12_check_118 rfl (by rw [hS]; exact kOM.pre (fun b hb => evw1 b (by omega)) (kOM.id hm1 huw1 (kSQ_M E) (by unfold kChkV; rw [if_pos hc, hA]; exact (kn_add (show (1 : Int32) = nI 1 from rfl) rfl).trans (congrArg nI (by omega)))))
          · exact absurd (nI_le (by omega) (by omega)) h9
        · have hy : 3 * i + 1 < kN (a 0) 6 := Nat.lt_of_not_le (fun q => h8 (nI_le q (by omega)))
          refine kv_aload_n dX12_check_61 rfl ?_
          refine kw_gR dX12_check_62 fX12_9 hv (by first | rfl | assumption) rfl rfl (by first | rfl | assumption) ?_
          refine kv_sipush dX12_check_65 1388 kz_1388 ?_
          refine kv_iload_n dX12_check_68 rfl ?_
          refine kv_iadd dX12_check_69 ?_
          refine kv_iconst dX12_check_70 1 ki_1 ?_
          refine kv_iadd dX12_check_71 ?_
          refine kw_ig dX12_check_72 hv egv rfl (1388 + (3 * i + 1)) ((kn_add (kn_add (show (1388 : Int32) = nI 1388 from rfl) rfl) (show (1 : Int32) = nI 1 from rfl)).trans (congrArg nI (Nat.add_assoc _ _ _))) (by omega) rfl ?_
          rw [show kchkG a (1388 + (3 * i + 1)) = a 0 (1388 + (3 * i + 1)) from kSet_n (by omega)]
          refine kv_goto dX12_check_73 77 (by decide) ?_
          refine kv_istore (ls2 := [_, _, _, _, _, _, _]) dX12_check_77 rfl rfl rfl rfl ?_
          refine kv_iload_n dX12_check_79 rfl ?_
          refine kv_iconst dX12_check_80 2 ki_2 ?_
          refine kv_iadd dX12_check_81 ?_
          refine kv_iload_n dX12_check_82 rfl ?_
          rw [show (nI (3 * i) + 2 : Int32) = nI (3 * i + 2) from kn_add rfl (show (2 : Int32) = nI 2 from rfl)]
          refine kv_icmp_ge dX12_check_83 101 (by decide) (fun h12 => ?_) (fun h12 => ?_)
          · refine kv_iconst dX12_check_101 0 ki_0 ?_
            refine kv_istore (ls2 := [_, _, _, _, _, _, _]) dX12_check_102 rfl rfl rfl rfl ?_
            refine kv_iload dX12_check_104 rfl ?_
            refine kv_iconst dX12_check_106 0 ki_0 ?_
            refine kv_bipush dX12_check_107 10 kb_10 ?_
            refine kw_Si [_, _, _] mX12_within dX12_check_109 lX12_78 wX12_within rfl rfl rfl (qX12_within (by exact hv) _ _ _) (by decide) ?_
            refine kw_bne dX12_check_112 119 (by decide) (fun h13 => ?_) (fun h13 => ?_)
            · obtain ⟨A, hA10, eA⟩ := kOut.bd (n := 10) (by omega) (kIn_y h13)
              have na := kIn_y h13
              have hNB1 : ∀ j, j < 3 * i + 1 → ¬ kBad (fun i => a 0 (1388 + i)) j := by
                intro j hj
                by_cases q : j = 3 * i
                · rw [q]
                  rintro (⟨q1, q2⟩ | ⟨q1, q2 | ⟨q3, q4⟩⟩)
                  · omega
                  · exact na q2
                  · omega
                · exact hNB j (by omega)
              refine kv_iload dX12_check_119 rfl ?_
              refine kv_iconst dX12_check_121 0 ki_0 ?_
              refine kv_bipush dX12_check_122 10 kb_10 ?_
              refine kw_Si [_, _, _] mX12_within dX12_check_124 lX12_78 wX12_within rfl rfl rfl (qX12_within (by exact hv) _ _ _) (by decide) ?_
              refine kw_beq dX12_check_127 137 (by decide) (fun h14 => ?_) (fun h14 => ?_)
              · have hA : kFW (fun i => a 0 (1388 + i)) (kN (a 0) 6) = 3 * i + 1 := kFW_is (by omega) (Or.inr ⟨by omega, Or.inl (kIn_n h14)⟩) hNB1
                have hc : kFW (fun i => a 0 (1388 + i)) (kN (a 0) 6) < kN (a 0) 6 ∨ ¬ kN (a 0) 6 % 3 = 0 := Or.inl (by omega)
                refine kv_iconst dX12_check_137 2 ki_2 ?_
                refine kv_iload_n dX12_check_138 rfl ?_
                refine kv_iadd dX12_check_139 ?_
                exact kv_iret dX12_check_140 rfl (by rw [hS]; exact kOM.pre (fun b hb => evw1 b (by omega)) (kOM.id hm1 huw1 (kSQ_M E) (by unfold kChkV; rw [if_pos hc, hA]; exact (kn_add (show (2 : Int32) = nI 2 from rfl) rfl).trans (congrArg nI (by omega)))))
              · obtain ⟨B, hB10, eB⟩ := kOut.bd (n := 10) (by omega) (kIn_y h14)
                have nb := kIn_y h14
                refine kv_iload dX12_check_130 rfl ?_
                refine kv_iload dX12_check_132 rfl ?_
                refine kv_icmp_ne dX12_check_134 141 (by decide) (fun h15 => ?_) (fun h15 => ?_)
                · have nc := h15
                  have hNB2 : ∀ j, j < 3 * i + 2 → ¬ kBad (fun i => a 0 (1388 + i)) j := by
                    intro j hj
                    by_cases q : j = 3 * i + 1
                    · rw [q]
                      rintro (⟨q1, q2⟩ | ⟨q1, q2 | ⟨q3, q4⟩⟩)
                      · omega
                      · exact nb q2
                      · exact nc q4.symm
                    · exact hNB1 j (by omega)
                  refine kv_iload dX12_check_141 rfl ?_
                  refine kv_iconst dX12_check_143 1 ki_1 ?_
                  refine kv_icmp_ge dX12_check_144 151 (by decide) (fun h16 => ?_) (fun h16 => ?_)
                  · exact absurd h16 (by decide)
                  · have hA : kFW (fun i => a 0 (1388 + i)) (kN (a 0) 6) = 3 * i + 2 := (kFW_no (fun j hj => hNB2 j (by omega))).trans (by omega)
                    have hc : kFW (fun i => a 0 (1388 + i)) (kN (a 0) 6) < kN (a 0) 6 ∨ ¬ kN (a 0) 6 % 3 = 0 := Or.inr (by omega)
                    refine kv_iconst dX12_check_147 3 ki_3 ?_
                    refine kv_iload_n dX12_check_148 rfl ?_
                    refine kv_iadd dX12_check_149 ?_
                    exact kv_iret dX12_check_150 rfl (by rw [hS]; exact kOM.pre (fun b hb => evw1 b (by omega)) (kOM.id hm1 huw1 (kSQ_M E) (by unfold kChkV; rw [if_pos hc, hA]; exact (kn_add (show (3 : Int32) = nI 3 from rfl) rfl).trans (congrArg nI (by omega)))))
                · have hA : kFW (fun i => a 0 (1388 + i)) (kN (a 0) 6) = 3 * i + 1 := kFW_is (by omega) (Or.inr ⟨by omega, Or.inr ⟨by omega, Eq.symm h15⟩⟩) hNB1
                  have hc : kFW (fun i => a 0 (1388 + i)) (kN (a 0) 6) < kN (a 0) 6 ∨ ¬ kN (a 0) 6 % 3 = 0 := Or.inl (by omega)
                  refine kv_iconst dX12_check_137 2 ki_2 ?_
                  refine kv_iload_n dX12_check_138 rfl ?_
                  refine kv_iadd dX12_check_139 ?_
                  exact kv_iret dX12_check_140 rfl (by rw [hS]; exact kOM.pre (fun b hb => evw1 b (by omega)) (kOM.id hm1 huw1 (kSQ_M E) (by unfold kChkV; rw [if_pos hc, hA]; exact (kn_add (show (2 : Int32) = nI 2 from rfl) rfl).trans (congrArg nI (by omega)))))
            · have hA : kFW (fun i => a 0 (1388 + i)) (kN (a 0) 6) = 3 * i := kFW_is (by omega) (Or.inr ⟨by omega, Or.inl (kIn_n h13)⟩) hNB
              have hc : kFW (fun i => a 0 (1388 + i)) (kN (a 0) 6) < kN (a 0) 6 ∨ ¬ kN (a 0) 6 % 3 = 0 := Or.inl (by omega)
              refine kv_iconst dX12_check_115 1 ki_1 ?_
              refine kv_iload_n dX12_check_116 rfl ?_
              refine kv_iadd dX12_check_117 ?_
              exact kv_iret dX12_check_118 rfl (by rw [hS]; exact kOM.pre (fun b hb => evw1 b (by omega)) (kOM.id hm1 huw1 (kSQ_M E) (by unfold kChkV; rw [if_pos hc, hA]; exact (kn_add (show (1 : Int32) = nI 1 from rfl) rfl).trans (congrArg nI (by omega)))))
          · exact absurd (nI_le (by omega) (by omega)) h12
    · intro v E hP hNB
      have hv := E.wd huw1
      have egv : v.2.1 414 = kchkG a := (E.row kSQ_now).trans egw1
      refine kv_iload_n dX12_check_37 rfl ?_
      refine kv_iload_n dX12_check_38 rfl ?_
      refine kv_icmp_ge dX12_check_39 183 (by decide) (fun h17 => ?_) (fun h17 => ?_)
      · exact absurd h17 (kn_ge (by omega) (by omega))
      · refine kv_aload_n dX12_check_42 rfl ?_
        refine kw_gR dX12_check_43 fX12_9 hv (by first | rfl | assumption) rfl rfl (by first | rfl | assumption) ?_
        refine kv_sipush dX12_check_46 1388 kz_1388 ?_
        refine kv_iload_n dX12_check_49 rfl ?_
        refine kv_iadd dX12_check_50 ?_
        refine kw_ig dX12_check_51 hv egv rfl (1388 + 3 * i) (kn_add (show (1388 : Int32) = nI 1388 from rfl) rfl) (by omega) rfl ?_
        rw [show kchkG a (1388 + 3 * i) = a 0 (1388 + 3 * i) from kSet_n (by omega)]
        refine kv_istore (ls2 := [_, _, _, _, _, _, _]) dX12_check_52 rfl rfl rfl rfl ?_
        refine kv_iload_n dX12_check_54 rfl ?_
        refine kv_iconst dX12_check_55 1 ki_1 ?_
        refine kv_iadd dX12_check_56 ?_
        refine kv_iload_n dX12_check_57 rfl ?_
        rw [show (nI (3 * i) + 1 : Int32) = nI (3 * i + 1) from kn_add rfl (show (1 : Int32) = nI 1 from rfl)]
        refine kv_icmp_ge dX12_check_58 76 (by decide) (fun h18 => ?_) (fun h18 => ?_)
        · exact absurd h18 (kn_ge (by omega) (by omega))
        · refine kv_aload_n dX12_check_61 rfl ?_
          refine kw_gR dX12_check_62 fX12_9 hv (by first | rfl | assumption) rfl rfl (by first | rfl | assumption) ?_
          refine kv_sipush dX12_check_65 1388 kz_1388 ?_
          refine kv_iload_n dX12_check_68 rfl ?_
          refine kv_iadd dX12_check_69 ?_
          refine kv_iconst dX12_check_70 1 ki_1 ?_
          refine kv_iadd dX12_check_71 ?_
          refine kw_ig dX12_check_72 hv egv rfl (1388 + (3 * i + 1)) ((kn_add (kn_add (show (1388 : Int32) = nI 1388 from rfl) rfl) (show (1 : Int32) = nI 1 from rfl)).trans (congrArg nI (Nat.add_assoc _ _ _))) (by omega) rfl ?_
          rw [show kchkG a (1388 + (3 * i + 1)) = a 0 (1388 + (3 * i + 1)) from kSet_n (by omega)]
          refine kv_goto dX12_check_73 77 (by decide) ?_
          refine kv_istore (ls2 := [_, _, _, _, _, _, _]) dX12_check_77 rfl rfl rfl rfl ?_
          refine kv_iload_n dX12_check_79 rfl ?_
          refine kv_iconst dX12_check_80 2 ki_2 ?_
          refine kv_iadd dX12_check_81 ?_
          refine kv_iload_n dX12_check_82 rfl ?_
          rw [show (nI (3 * i) + 2 : Int32) = nI (3 * i + 2) from kn_add rfl (show (2 : Int32) = nI 2 from rfl)]
          refine kv_icmp_ge dX12_check_83 101 (by decide) (fun h19 => ?_) (fun h19 => ?_)
          · exact absurd h19 (kn_ge (by omega) (by omega))
          · refine kv_aload_n dX12_check_86 rfl ?_
            refine kw_gR dX12_check_87 fX12_9 hv (by first | rfl | assumption) rfl rfl (by first | rfl | assumption) ?_
            refine kv_sipush dX12_check_90 1388 kz_1388 ?_
            refine kv_iload_n dX12_check_93 rfl ?_
            refine kv_iadd dX12_check_94 ?_
            refine kv_iconst dX12_check_95 2 ki_2 ?_
            refine kv_iadd dX12_check_96 ?_
            refine kw_ig dX12_check_97 hv egv rfl (1388 + (3 * i + 2)) ((kn_add (kn_add (show (1388 : Int32) = nI 1388 from rfl) rfl) (show (2 : Int32) = nI 2 from rfl)).trans (congrArg nI (Nat.add_assoc _ _ _))) (by omega) rfl ?_
            rw [show kchkG a (1388 + (3 * i + 2)) = a 0 (1388 + (3 * i + 2)) from kSet_n (by omega)]
            refine kv_goto dX12_check_98 102 (by decide) ?_
            refine kv_istore (ls2 := [_, _, _, _, _, _, _]) dX12_check_102 rfl rfl rfl rfl ?_
            refine kv_iload dX12_check_104 rfl ?_
            refine kv_iconst dX12_check_106 0 ki_0 ?_
            refine kv_bipush dX12_check_107 10 kb_10 ?_
            refine kw_Si [_, _, _] mX12_within dX12_check_109 lX12_78 wX12_within rfl rfl rfl (qX12_within (by exact hv) _ _ _) (by decide) ?_
            refine kw_bne dX12_check_112 119 (by decide) (fun h20 => ?_) (fun h20 => ?_)
            · obtain ⟨A, hA10, eA⟩ := kOut.bd (n := 10) (by omega) (kIn_y h20)
              have na := kIn_y h20
              have hNB1 : ∀ j, j < 3 * i + 1 → ¬ kBad (fun i => a 0 (1388 + i)) j := by
                intro j hj
                by_cases q : j = 3 * i
                · rw [q]
                  rintro (⟨q1, q2⟩ | ⟨q1, q2 | ⟨q3, q4⟩⟩)
                  · omega
                  · exact na q2
                  · omega
                · exact hNB j (by omega)
              refine kv_iload dX12_check_119 rfl ?_
              refine kv_iconst dX12_check_121 0 ki_0 ?_
              refine kv_bipush dX12_check_122 10 kb_10 ?_
              refine kw_Si [_, _, _] mX12_within dX12_check_124 lX12_78 wX12_within rfl rfl rfl (qX12_within (by exact hv) _ _ _) (by decide) ?_
              refine kw_beq dX12_check_127 137 (by decide) (fun h21 => ?_) (fun h21 => ?_)
              · have hA : kFW (fun i => a 0 (1388 + i)) (kN (a 0) 6) = 3 * i + 1 := kFW_is (by omega) (Or.inr ⟨by omega, Or.inl (kIn_n h21)⟩) hNB1
                have hc : kFW (fun i => a 0 (1388 + i)) (kN (a 0) 6) < kN (a 0) 6 ∨ ¬ kN (a 0) 6 % 3 = 0 := Or.inl (by omega)
                refine kv_iconst dX12_check_137 2 ki_2 ?_
                refine kv_iload_n dX12_check_138 rfl ?_
                refine kv_iadd dX12_check_139 ?_
                exact kv_iret dX12_check_140 rfl (by rw [hS]; exact kOM.pre (fun b hb => evw1 b (by omega)) (kOM.id hm1 huw1 (kSQ_M E) (by unfold kChkV; rw [if_pos hc, hA]; exact (kn_add (show (2 : Int32) = nI 2 from rfl) rfl).trans (congrArg nI (by omega)))))
              · obtain ⟨B, hB10, eB⟩ := kOut.bd (n := 10) (by omega) (kIn_y h21)
                have nb := kIn_y h21
                refine kv_iload dX12_check_130 rfl ?_
                refine kv_iload dX12_check_132 rfl ?_
                refine kv_icmp_ne dX12_check_134 141 (by decide) (fun h22 => ?_) (fun h22 => ?_)
                · have nc := h22
                  have hNB2 : ∀ j, j < 3 * i + 2 → ¬ kBad (fun i => a 0 (1388 + i)) j := by
                    intro j hj
                    by_cases q : j = 3 * i + 1
                    · rw [q]
                      rintro (⟨q1, q2⟩ | ⟨q1, q2 | ⟨q3, q4⟩⟩)
                      · omega
                      · exact nb q2
                      · exact nc q4.symm
                    · exact hNB1 j (by omega)
                  refine kv_iload dX12_check_141 rfl ?_
                  refine kv_iconst dX12_check_143 1 ki_1 ?_
                  refine kv_icmp_ge dX12_check_144 151 (by decide) (fun h23 => ?_) (fun h23 => ?_)
                  · have nd := h23
                    have hNB3 : ∀ j, j < 3 * (i + 1) → ¬ kBad (fun i => a 0 (1388 + i)) j := by
                      intro j hj
                      by_cases q : j = 3 * i + 2
                      · rw [q]
                        rintro (⟨q1, q2⟩ | ⟨q1, q2 | ⟨q3, q4⟩⟩)
                        · exact q2 nd
                        · omega
                        · omega
                      · exact hNB2 j (by omega)
                    have hp := kPayA_s (t := (fun i => a 0 (1388 + i))) (f := (kPosA (kchkG a) p0 (kN (kchkG a) 4))) hA10 hB10 eA eB
                    refine kv_aload_n dX12_check_151 rfl ?_
                    refine kw_gR dX12_check_152 fX12_40 hv (by first | rfl | assumption) rfl rfl (by first | rfl | assumption) ?_
                    refine kv_iload dX12_check_155 rfl ?_
                    refine kv_dup2 dX12_check_157 rfl rfl ?_
                    refine kw_ll dX12_check_158 hv (by first | rfl | assumption) (A) eA (by omega) rfl ?_
                    rw [hP _ (by omega)]
                    refine kv_iload dX12_check_159 rfl ?_
                    refine kv_i2l dX12_check_161 ?_
                    refine kv_ladd dX12_check_162 ?_
                    refine kw_ls dX12_check_163 hv (by first | rfl | assumption) (A) eA (by omega) rfl ?_
                    refine kv_aload_n dX12_check_164 rfl ?_
                    refine kw_gR dX12_check_165 fX12_40 hv (by first | rfl | assumption) rfl rfl (by first | rfl | assumption) ?_
                    refine kv_iload dX12_check_168 rfl ?_
                    refine kv_dup2 dX12_check_170 rfl rfl ?_
                    refine kw_ll dX12_check_171 hv (by first | rfl | assumption) (B) eB (by omega) rfl ?_
                    rw [kv_sg_up hP _ (by omega)]
                    refine kv_iload dX12_check_172 rfl ?_
                    refine kv_i2l dX12_check_174 ?_
                    refine kv_lsub dX12_check_175 ?_
                    refine kw_ls dX12_check_176 hv (by first | rfl | assumption) (B) eB (by omega) rfl ?_
                    refine kv_iinc (ls2 := [_, _, _, _, _, _, _]) dX12_check_177 (nI (3 * (i + 1))) rfl (kn_inc3 i) rfl rfl rfl rfl ?_
                    refine kv_goto dX12_check_180 37 (by decide) ?_
                    exact KV.loc (ih _ ((E.sg (Or.inr rfl)).sg (Or.inr rfl)) (by rw [hp]; exact kv_sg_up (kv_sg_up hP)) hNB3) (ksS rfl (ksS rfl (ksS rfl (ksS rfl (ks0 (ks0 (ks0 ksN)))))))
                  · have hA : kFW (fun i => a 0 (1388 + i)) (kN (a 0) 6) = 3 * i + 2 := kFW_is (by omega) (Or.inl ⟨by omega, h23⟩) hNB2
                    have hc : kFW (fun i => a 0 (1388 + i)) (kN (a 0) 6) < kN (a 0) 6 ∨ ¬ kN (a 0) 6 % 3 = 0 := Or.inl (by omega)
                    refine kv_iconst dX12_check_147 3 ki_3 ?_
                    refine kv_iload_n dX12_check_148 rfl ?_
                    refine kv_iadd dX12_check_149 ?_
                    exact kv_iret dX12_check_150 rfl (by rw [hS]; exact kOM.pre (fun b hb => evw1 b (by omega)) (kOM.id hm1 huw1 (kSQ_M E) (by unfold kChkV; rw [if_pos hc, hA]; exact (kn_add (show (3 : Int32) = nI 3 from rfl) rfl).trans (congrArg nI (by omega)))))
                · have hA : kFW (fun i => a 0 (1388 + i)) (kN (a 0) 6) = 3 * i + 1 := kFW_is (by omega) (Or.inr ⟨by omega, Or.inr ⟨by omega, Eq.symm h22⟩⟩) hNB1
                  have hc : kFW (fun i => a 0 (1388 + i)) (kN (a 0) 6) < kN (a 0) 6 ∨ ¬ kN (a 0) 6 % 3 = 0 := Or.inl (by omega)
                  refine kv_iconst dX12_check_137 2 ki_2 ?_
                  refine kv_iload_n dX12_check_138 rfl ?_
                  refine kv_iadd dX12_check_139 ?_
                  exact kv_iret dX12_check_140 rfl (by rw [hS]; exact kOM.pre (fun b hb => evw1 b (by omega)) (kOM.id hm1 huw1 (kSQ_M E) (by unfold kChkV; rw [if_pos hc, hA]; exact (kn_add (show (2 : Int32) = nI 2 from rfl) rfl).trans (congrArg nI (by omega)))))
            · have hA : kFW (fun i => a 0 (1388 + i)) (kN (a 0) 6) = 3 * i := kFW_is (by omega) (Or.inr ⟨by omega, Or.inl (kIn_n h20)⟩) hNB
              have hc : kFW (fun i => a 0 (1388 + i)) (kN (a 0) 6) < kN (a 0) 6 ∨ ¬ kN (a 0) 6 % 3 = 0 := Or.inl (by omega)
              refine kv_iconst dX12_check_115 1 ki_1 ?_
              refine kv_iload_n dX12_check_116 rfl ?_
              refine kv_iadd dX12_check_117 ?_
              exact kv_iret dX12_check_118 rfl (by rw [hS]; exact kOM.pre (fun b hb => evw1 b (by omega)) (kOM.id hm1 huw1 (kSQ_M E) (by unfold kChkV; rw [if_pos hc, hA]; exact (kn_add (show (1 : Int32) = nI 1 from rfl) rfl).trans (congrArg nI (by omega)))))
  · have hS : kcheck a p0 = _ := if_pos (kIn_n h1)
    refine kv_aload_n dX12_check_23 rfl ?_
    refine kv_ldc dX12_check_24 kX12_83 ?_
    refine kw_Vi [_] mX12_finding dX12_check_26 lX12_84 wX12_finding kC12 huw1 rfl (by first | rfl | assumption) rfl rfl rfl (qX12_finding (by exact huw1) 1 (by decide) (by decide) _ (by decide)) (by decide) ?_
    exact kv_iret dX12_check_29 rfl (by rw [hS]; exact kOM.pre (fun b hb => evw1 b (by omega)) (kOM.no hm1 huw1 rfl))

theorem kcheck_ok {a : KA} (ho : kOk a) (p0 : Int32) : kOk (kcheck a p0).2 := by
  unfold kcheck
  have hg1 : kGI (kchkG a) := ho.1.untell (fun i hi => kSet_n hi) ⟨0, by omega, by unfold kchkG; rw [kSet_s]; rfl⟩ (by unfold kN kchkG; rw [kSet_s]; rfl)
  split
  · exact (ho.now hg1).fnd 1
  · exact ho.now hg1
