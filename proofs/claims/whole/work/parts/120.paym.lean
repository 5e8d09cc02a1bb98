/-! payments of the model -/
theorem kSm_y {p : Nat → Int64} {n : Nat} (h : p n = 0) : kSm p (n + 1) = kSm p n := by
  show kSm p n ||| (if p n = 0 then 0 else 2 ^ n) = _
  rw [if_pos h, Nat.or_zero]
theorem kSm_n {p : Nat → Int64} {n : Nat} (h : ¬ p n = 0) : kSm p (n + 1) = kSm p n ||| 2 ^ n := by
  show kSm p n ||| (if p n = 0 then 0 else 2 ^ n) = _
  rw [if_neg h]
theorem kb_tb {s j : Nat} (h : (s >>> j) % 2 = 1) : s.testBit j = true := by
  rw [kTb] at h
  cases y : s.testBit j
  · rw [y] at h; exact absurd h (by decide)
  · rfl
theorem kb_tf {s j : Nat} (h : ¬ (s >>> j) % 2 = 1) : s.testBit j = false := by
  rw [kTb] at h
  cases y : s.testBit j
  · rfl
  · rw [y] at h; exact absurd rfl h
theorem kLow1 {t : Nat} (h1 : 1 ≤ t) (h : t < 2048) : 0 < kCt t 11 := by
  obtain ⟨l, hl, -, hb, -⟩ := kNt h1 h
  exact kCt_pos hb hl
set_option maxRecDepth 20000 in
set_option maxHeartbeats 4000000 in
theorem qX12_payments {w : KW} {l : Launch} {u : KMem} (hu : kWd u) {a : KA} (hm : kRM a u) (ho : kOk a) (p0 : Int32) : KC w l mX12_payments 10 0 0 [.ref 413, .int p0] u (kOM u (kpayments a p0).1 (kpayments a p0).2) := by
  have eg := hm.1
  have hg := ho.1
  have hx20 := (hg.cnt (k := 2) rfl).2
  have hc30 := (hg.cnt (k := 0) rfl).2
  have ht10 := (hg.cnt (k := 3) rfl).2
  have he40 := (hg.cnt (k := 4) rfl).2
  have hs16 := hg.cnt (k := 1) rfl
  refine KC.of (ls := [_, _, _, _, _]) rfl rfl (Nat.le_of_ble_eq_true rfl) ?_
  refine kv_iload_n dX12_payments_0 rfl ?_
  refine kw_Si [_] mX12_isMonth dX12_payments_1 lX12_317 wX12_isMonth rfl rfl rfl (qX12_isMonth (by exact hu) _) (by decide) ?_
  refine kw_bne dX12_payments_4 14 (by decide) (fun h1 => ?_) (fun h1 => ?_)
  · have n1 : ¬ kOut p0 0 33 := kIn_y h1
    have hS : kpayments a p0 = _ := if_neg n1
    refine kv_aload_n dX12_payments_14 rfl ?_
    refine kv_iload_n dX12_payments_15 rfl ?_
    refine kw_VQ [_] mX12_findPositions dX12_payments_16 lX12_320 wX12_findPositions kC12 hu rfl (by first | rfl | assumption) rfl rfl rfl (qX12_findPositions hu eg hg p0) (by decide) (fun _ v1 q1 => ?_)
    obtain ⟨rfl, eL, hp0⟩ := q1
    have e1 := kSQ_M eL
    obtain ⟨p, ep⟩ : ∃ p, p = (kPosA (a 0) p0 (kN (a 0) 4)) := ⟨_, rfl⟩
    have hp : ∀ k, k < 11 → v1.2.2.1 421 k = p k := fun k hk => by rw [ep]; exact hp0 k hk
    have z423 : v1.2.1 423 0 = 0 := (eL.2.2.1 423 0 (by unfold kSQ; omega)).trans hm.2.2.2.2.2.2.2.2.2.2
    have hu1 := e1.wd hu
    have E1 := e1
    have eg1 : v1.2.1 414 = a 0 := (E1.row kSM_now).trans eg
    refine kv_iconst dX12_payments_19 0 ki_0 ?_
    refine kv_istore_n (ls2 := [_, _, _, _, _]) dX12_payments_20 rfl rfl rfl rfl ?_
    refine kv_iconst dX12_payments_21 0 ki_0 ?_
    refine kv_istore_n (ls2 := [_, _, _, _, _]) dX12_payments_22 rfl rfl rfl rfl ?_
    refine KV.loc (ls2 := [some (.ref 413), some (.int p0), some (.int (nI (kSm p (0)))), some (.int (nI (0))), none]) ?_ (ksS (by first | rfl | exact congrArg (fun z => some (Value.int z)) ((congrArg (fun z => nI (kSm p i) ||| z) (kn_pow i (by omega))).trans ((kn_or _ _).trans (congrArg nI en.symm))) | exact congrArg (fun z => some (Value.int z)) ((kn_or _ 0).trans (congrArg nI ((Nat.or_zero _).trans en.symm)))) (ksS (by first | rfl | exact congrArg (fun z => some (Value.int z)) ((congrArg (fun z => nI (kSm p i) ||| z) (kn_pow i (by omega))).trans ((kn_or _ _).trans (congrArg nI en.symm))) | exact congrArg (fun z => some (Value.int z)) ((kn_or _ 0).trans (congrArg nI ((Nat.or_zero _).trans en.symm)))) (ksS (by first | rfl | exact congrArg (fun z => some (Value.int z)) ((congrArg (fun z => nI (kSm p i) ||| z) (kn_pow i (by omega))).trans ((kn_or _ _).trans (congrArg nI en.symm))) | exact congrArg (fun z => some (Value.int z)) ((kn_or _ 0).trans (congrArg nI ((Nat.or_zero _).trans en.symm)))) (ksS (by first | rfl | exact congrArg (fun z => some (Value.int z)) ((congrArg (fun z => nI (kSm p i) ||| z) (kn_pow i (by omega))).trans ((kn_or _ _).trans (congrArg nI en.symm))) | exact congrArg (fun z => some (Value.int z)) ((kn_or _ 0).trans (congrArg nI ((Nat.or_zero _).trans en.symm)))) (ks0 ksN)))))
    refine kn_loop (P := fun i => KV w l mX12_payments 10 0 0 23 [some (.ref 413), some (.int p0), some (.int (nI (kSm p i))), some (.int (nI i)), none] [] v1 (kOM u (kpayments a p0).1 (kpayments a p0).2)) (11) ?_ (fun i hi ih => ?_)
    · refine kv_iload_n dX12_payments_23 rfl ?_
      refine kv_bipush dX12_payments_24 11 kb_11 ?_
      refine kv_icmp_ge dX12_payments_26 56 (by decide) (fun h2 => ?_) (fun h2 => ?_)
      · refine kv_iconst dX12_payments_56 1 ki_1 ?_
        refine kv_istore_n (ls2 := [_, _, _, _, _]) dX12_payments_57 rfl rfl rfl rfl ?_
        have hm11 : kSm p 11 < 2 ^ 11 := kSm_lt p 11
        obtain ⟨m, em⟩ : ∃ m, m = kSm p 11 := ⟨_, rfl⟩
        rw [← em] at hm11 ⊢
        refine KV.loc (ls2 := [some (.ref 413), some (.int p0), some (.int (nI m)), some (.int (nI (0 + 1))), none]) ?_ (ksS rfl (ksS rfl (ksS rfl (ksS rfl (ks0 ksN)))))
        refine kn_loop (P := fun i => ∀ v : KMem, kEq kSG v1 v → (∀ s, s ≤ i → kSb s m → v.2.2.1 422 s = kSum (kLs p s 11) ∧ v.2.1 423 s = nI (kGL (kLs p s 11))) → KV w l mX12_payments 10 0 0 58 [some (.ref 413), some (.int p0), some (.int (nI m)), some (.int (nI (i + 1))), none] [] v (kOM u (kpayments a p0).1 (kpayments a p0).2)) (2047) ?_ (fun i hi ih => ?_) v1 kEq.rf (fun s hs _ => by rw [show s = 0 by omega, kLs_0]; exact ⟨hu1.2.2.2, z423⟩)
        · intro v E hS2
          have hv := E.wd hu1
          have egv : v.2.1 414 = a 0 := (E.row kSG_now).trans eg1
          have hP : ∀ k, k < 11 → v.2.2.1 421 k = p k := fun k hk => (E.2.2.2 421 k (by unfold kSG; omega)).trans (hp k hk)
          refine kv_iload_n dX12_payments_58 rfl ?_
          refine kv_sipush dX12_payments_59 2048 kz_2048 ?_
          refine kv_icmp_ge dX12_payments_62 206 (by decide) (fun h3 => ?_) (fun h3 => ?_)
          · refine kv_iload_n dX12_payments_206 rfl ?_
            refine kw_Si [_] mX12_bits dX12_payments_207 lX12_149 wX12_bits rfl rfl rfl (qX12_bits (by exact hv) _) (by decide) ?_
            rw [kBits_ct 24 (by omega)]
            refine kv_aload_n dX12_payments_210 rfl ?_
            refine kw_gR dX12_payments_211 fX12_47 hv (by first | rfl | assumption) rfl rfl (by first | rfl | assumption) ?_
            refine kv_iload_n dX12_payments_214 rfl ?_
            refine kw_il dX12_payments_215 hv (by first | rfl | assumption) (m) rfl (by omega) rfl ?_
            rw [(hS2 m (by omega) (kSb.rf m)).2]
            refine kv_isub dX12_payments_216 ?_
            exact kv_iret dX12_payments_217 rfl (by
                have e24 : kCt m 24 = kCt m 11 := kCt_z hm11 13
                have el := kSm_ls p 11 11 (Nat.le_refl _)
                rw [← em] at el
                have ln : (kNz p 11).length = kCt m 11 := by rw [← el, kLs_len]
                rw [hS]
                refine kOM.id hm hu (e1.tr (E.wk (fun a k q => Or.inl (by unfold kSG at q; omega)))) ?_
                rw [e24, el, ← ep, ← ln]
                exact kn_sub rfl rfl (kGL_le _ _ rfl))
          · exact absurd (Int32.le_refl (nI 2048)) h3
        · have ihi := ih
          intro v E hS2
          have hv := E.wd hu1
          have egv : v.2.1 414 = a 0 := (E.row kSG_now).trans eg1
          have hP : ∀ k, k < 11 → v.2.2.1 421 k = p k := fun k hk => (E.2.2.2 421 k (by unfold kSG; omega)).trans (hp k hk)
          have ht : i + 1 < 2048 := by omega
          have hct := kCt_b (i + 1) 11
          refine kv_iload_n dX12_payments_58 rfl ?_
          refine kv_sipush dX12_payments_59 2048 kz_2048 ?_
          refine kv_icmp_ge dX12_payments_62 206 (by decide) (fun h4 => ?_) (fun h4 => ?_)
          · exact absurd h4 (kn_ge (n := 2048) (by omega) (by omega))
          · refine kv_aload_n dX12_payments_65 rfl ?_
            refine kw_gR dX12_payments_66 fX12_44 hv (by first | rfl | assumption) rfl rfl (by first | rfl | assumption) ?_
            refine kv_iload_n dX12_payments_69 rfl ?_
            refine kv_lconst dX12_payments_70 0 kl_0 ?_
            refine kw_ls dX12_payments_71 hv (by first | rfl | assumption) (i + 1) rfl (by omega) rfl ?_
            refine kv_aload_n dX12_payments_72 rfl ?_
            refine kw_gR dX12_payments_73 fX12_47 hv (by first | rfl | assumption) rfl rfl (by first | rfl | assumption) ?_
            refine kv_iload_n dX12_payments_76 rfl ?_
            refine kv_iconst dX12_payments_77 0 ki_0 ?_
            refine kw_is dX12_payments_78 hv (by first | rfl | assumption) (i + 1) rfl (by omega) rfl ?_
            by_cases hsub : kSb (i + 1) m
            · refine kv_iconst dX12_payments_79 0 ki_0 ?_
              refine kv_istore (ls2 := [_, _, _, _, _]) dX12_payments_80 rfl rfl rfl rfl ?_
              refine KV.loc (ls2 := [some (.ref 413), some (.int p0), some (.int (nI m)), some (.int (nI (i + 1))), some (.int (nI (0)))]) ?_ (ksS rfl (ksS rfl (ksS rfl (ksS rfl (ksS rfl ksN)))))
              refine kn_loop (P := fun j => ∀ v : KMem, kEq kSG v1 v → (∀ s, s ≤ i → kSb s m → v.2.2.1 422 s = kSum (kLs p s 11) ∧ v.2.1 423 s = nI (kGL (kLs p s 11))) → (v.2.2.1 422 (i + 1) = if kCt (i + 1) j = 0 then 0 else kSum (kLs p (i + 1) 11)) → v.2.1 423 (i + 1) = nI (kMx (fun r => kGL ((kLs p (i + 1) 11).eraseIdx r)) (kCt (i + 1) j)) → KV w l mX12_payments 10 0 0 82 [some (.ref 413), some (.int p0), some (.int (nI m)), some (.int (nI (i + 1))), some (.int (nI j))] [] v (kOM u (kpayments a p0).1 (kpayments a p0).2)) (11) ?_ (fun j hj ih => ?_) _ ((E.sg (Or.inl ⟨rfl, by omega⟩)).si (Or.inr ⟨rfl, by omega⟩)) (fun s hs hb => ⟨(kv_sg_n (by omega)).trans (hS2 s hs hb).1, (kv_si_n (by omega)).trans (hS2 s hs hb).2⟩) (kv_sg_s _ _ _ _) (kv_si_s _ _ _ _)
              · intro v E3 hS3 hsu hgr
                have hv := E3.wd hu1
                have egv : v.2.1 414 = a 0 := (E3.row kSG_now).trans eg1
                have hP3 : ∀ k, k < 11 → v.2.2.1 421 k = p k := fun k hk => (E3.2.2.2 421 k (by unfold kSG; omega)).trans (hp k hk)
                rw [if_neg (by have := kLow1 (t := i + 1) (by omega) ht; omega)] at hsu
                have hM := kGs_end (p := p) (kLow1 (t := i + 1) (by omega) ht)
                have hMb : kGL (kLs p (i + 1) 11) ≤ kCt (i + 1) 11 := kGL_le _ _ (kLs_len p (i + 1) 11)
                refine kv_iload dX12_payments_82 rfl ?_
                refine kv_bipush dX12_payments_84 11 kb_11 ?_
                refine kv_icmp_ge dX12_payments_86 167 (by decide) (fun h5 => ?_) (fun h5 => ?_)
                · refine kv_aload_n dX12_payments_167 rfl ?_
                  refine kw_gR dX12_payments_168 fX12_47 hv (by first | rfl | assumption) rfl rfl (by first | rfl | assumption) ?_
                  refine kv_iload_n dX12_payments_171 rfl ?_
                  refine kv_dup2 dX12_payments_172 rfl rfl ?_
                  refine kw_il dX12_payments_173 hv (by first | rfl | assumption) (i + 1) rfl (by omega) rfl ?_
                  first | rw [hgr] | rw [kv_si_s]
                  refine kv_iload_n dX12_payments_174 rfl ?_
                  refine kv_iload_n dX12_payments_175 rfl ?_
                  refine kv_iconst dX12_payments_176 (-1) ki_m1 ?_
                  refine kv_ixor dX12_payments_177 ?_
                  refine kv_iand dX12_payments_178 ?_
                  rw [show (nI (i + 1) &&& (nI m ^^^ (-1))) = nI ((i + 1) ^^^ ((i + 1) &&& m)) from (kb_andn _ _).trans (by rw [kn_and, kn_xor])]
                  refine kv_if_ne dX12_payments_179 197 (by decide) (fun h6 => ?_) (fun h6 => ?_)
                  · exact absurd (congrArg nI (kSb_and.mpr hsub)) h6
                  · refine kv_aload_n dX12_payments_182 rfl ?_
                    refine kw_gR dX12_payments_183 fX12_44 hv (by first | rfl | assumption) rfl rfl (by first | rfl | assumption) ?_
                    refine kv_iload_n dX12_payments_186 rfl ?_
                    refine kw_ll dX12_payments_187 hv (by first | rfl | assumption) (i + 1) rfl (by omega) rfl ?_
                    rw [hsu]
                    refine kv_lconst dX12_payments_188 0 kl_0 ?_
                    refine kv_lcmp dX12_payments_189 ?_
                    refine kv_if_ne dX12_payments_190 197 (by decide) (fun h7 => ?_) (fun h7 => ?_)
                    · have hfin : nI (kMx (fun r => kGL ((kLs p (i + 1) 11).eraseIdx r)) (kCt (i + 1) 11)) + 0 = nI (kGL (kLs p (i + 1) 11)) := (kn_add rfl (show (0 : Int32) = nI 0 from rfl)).trans (congrArg nI (hM.trans (congrArg (fun z => kMx (fun r => kGL ((kLs p (i + 1) 11).eraseIdx r)) (kCt (i + 1) 11) + z) (if_neg (fun z => h7 ((lg_cmp_eq _ _).mpr z))))).symm)
                      refine kv_iconst dX12_payments_197 0 ki_0 ?_
                      refine kv_iadd dX12_payments_198 ?_
                      refine kw_is dX12_payments_199 hv (by first | rfl | assumption) (i + 1) rfl (by omega) rfl ?_
                      refine kv_iinc (ls2 := [_, _, _, _, _]) dX12_payments_200 (nI (i + 1 + 1)) rfl (kv_inc1 (i + 1)) rfl rfl rfl rfl ?_
                      refine kv_goto dX12_payments_203 58 (by decide) ?_
                      first
                      | (refine KV.loc (ihi _ ((E3.si (Or.inr ⟨rfl, by omega⟩))) (fun s hs hb => ?_)) (ksS rfl (ksS rfl (ksS rfl (ksS rfl (ks0 ksN)))))
                         by_cases z : s = i + 1
                         · rw [z]
                           exact ⟨hsu, (kv_si_s _ _ _ _).trans hfin⟩
                         · exact ⟨(hS3 s (by omega) hb).1, (kv_si_n (by omega)).trans (hS3 s (by omega) hb).2⟩)
                      | (refine KV.loc (ihi _ (((E.sg (Or.inl ⟨rfl, by omega⟩)).si (Or.inr ⟨rfl, by omega⟩)).si (Or.inr ⟨rfl, by omega⟩)) (fun s hs hb => ?_)) (ksS rfl (ksS rfl (ksS rfl (ksS rfl (ks0 ksN)))))
                         by_cases z : s = i + 1
                         · rw [z] at hb; exact absurd hb hsub
                         · exact ⟨(kv_sg_n (by omega)).trans (hS2 s (by omega) hb).1, (kv_si_n (by omega)).trans ((kv_si_n (by omega)).trans (hS2 s (by omega) hb).2)⟩)
                    · have hfin : nI (kMx (fun r => kGL ((kLs p (i + 1) 11).eraseIdx r)) (kCt (i + 1) 11)) + 1 = nI (kGL (kLs p (i + 1) 11)) := (kn_add rfl (show (1 : Int32) = nI 1 from rfl)).trans (congrArg nI (hM.trans (congrArg (fun z => kMx (fun r => kGL ((kLs p (i + 1) 11).eraseIdx r)) (kCt (i + 1) 11) + z) (if_pos ((lg_cmp_eq _ _).mp h7)))).symm)
                      refine kv_iconst dX12_payments_193 1 ki_1 ?_
                      refine kv_goto dX12_payments_194 198 (by decide) ?_
                      refine kv_iadd dX12_payments_198 ?_
                      refine kw_is dX12_payments_199 hv (by first | rfl | assumption) (i + 1) rfl (by omega) rfl ?_
                      refine kv_iinc (ls2 := [_, _, _, _, _]) dX12_payments_200 (nI (i + 1 + 1)) rfl (kv_inc1 (i + 1)) rfl rfl rfl rfl ?_
                      refine kv_goto dX12_payments_203 58 (by decide) ?_
                      first
                      | (refine KV.loc (ihi _ ((E3.si (Or.inr ⟨rfl, by omega⟩))) (fun s hs hb => ?_)) (ksS rfl (ksS rfl (ksS rfl (ksS rfl (ks0 ksN)))))
                         by_cases z : s = i + 1
                         · rw [z]
                           exact ⟨hsu, (kv_si_s _ _ _ _).trans hfin⟩
                         · exact ⟨(hS3 s (by omega) hb).1, (kv_si_n (by omega)).trans (hS3 s (by omega) hb).2⟩)
                      | (refine KV.loc (ihi _ (((E.sg (Or.inl ⟨rfl, by omega⟩)).si (Or.inr ⟨rfl, by omega⟩)).si (Or.inr ⟨rfl, by omega⟩)) (fun s hs hb => ?_)) (ksS rfl (ksS rfl (ksS rfl (ksS rfl (ks0 ksN)))))
                         by_cases z : s = i + 1
                         · rw [z] at hb; exact absurd hb hsub
                         · exact ⟨(kv_sg_n (by omega)).trans (hS2 s (by omega) hb).1, (kv_si_n (by omega)).trans ((kv_si_n (by omega)).trans (hS2 s (by omega) hb).2)⟩)
                · exact absurd (Int32.le_refl (nI 11)) h5
              · intro v E3 hS3 hsu hgr
                have hv := E3.wd hu1
                have egv : v.2.1 414 = a 0 := (E3.row kSG_now).trans eg1
                have hP3 : ∀ k, k < 11 → v.2.2.1 421 k = p k := fun k hk => (E3.2.2.2 421 k (by unfold kSG; omega)).trans (hp k hk)
                refine kv_iload dX12_payments_82 rfl ?_
                refine kv_bipush dX12_payments_84 11 kb_11 ?_
                refine kv_icmp_ge dX12_payments_86 167 (by decide) (fun h8 => ?_) (fun h8 => ?_)
                · exact absurd h8 (kn_ge (n := 11) hj (by omega))
                · refine kv_iload_n dX12_payments_89 rfl ?_
                  refine kv_iload_n dX12_payments_90 rfl ?_
                  refine kv_iconst dX12_payments_91 (-1) ki_m1 ?_
                  refine kv_ixor dX12_payments_92 ?_
                  refine kv_iand dX12_payments_93 ?_
                  rw [show (nI (i + 1) &&& (nI m ^^^ (-1))) = nI ((i + 1) ^^^ ((i + 1) &&& m)) from (kb_andn _ _).trans (by rw [kn_and, kn_xor])]
                  refine kv_if_ne dX12_payments_94 167 (by decide) (fun h9 => ?_) (fun h9 => ?_)
                  · exact absurd (congrArg nI (kSb_and.mpr hsub)) h9
                  · refine kv_iload_n dX12_payments_97 rfl ?_
                    refine kv_iload dX12_payments_98 rfl ?_
                    refine kw_Si [_, _] mX12_has dX12_payments_100 lX12_128 wX12_has rfl rfl rfl (qX12_has (by exact hv) _ _) (by decide) ?_
                    refine kw_beq dX12_payments_103 161 (by decide) (fun h10 => ?_) (fun h10 => ?_)
                    · have hbj := kb_tf (fun z => h10 ((kHas_ct (by omega)).mpr z))
                      have ec := kGs_n hbj
                      refine kv_iinc (ls2 := [_, _, _, _, _]) dX12_payments_161 (nI (j + 1)) rfl (kv_inc1 j) rfl rfl rfl rfl ?_
                      refine kv_goto dX12_payments_164 82 (by decide) ?_
                      first
                      | exact KV.loc (ih _ E3 hS3 (by rw [ec]; exact hsu) (by rw [ec]; exact hgr)) (ksS rfl (ksS rfl (ksS rfl (ksS rfl (ksS rfl ksN)))))
                      | exact KV.loc (ih _ ((E3.sg (Or.inl ⟨rfl, by omega⟩)).si (Or.inr ⟨rfl, by omega⟩)) (fun s hs hb => ⟨(kv_sg_n (by omega)).trans (hS3 s hs hb).1, (kv_si_n (by omega)).trans (hS3 s hs hb).2⟩) (by rw [if_neg hc1]; exact kv_sg_s _ _ _ _) (by rw [ec]; exact (kv_si_s _ _ _ _).trans (kn_max (by omega) (by omega)))) (ksS rfl (ksS rfl (ksS rfl (ksS rfl (ksS rfl ksN)))))
                    · have hbj := kb_tb ((kHas_ct (by omega)).mp h10)
                      have ec := kGs_y (p := p) hbj hj
                      have hxj := kXlt ht (by omega) hbj
                      have hsj := kSb_x hbj hsub
                      have hz := hS3 ((i + 1) ^^^ 2 ^ j) (by omega) hsj
                      have hsum := (kLs_x (p := p) hbj 11 hj).2
                      have ix : nI (i + 1) &&& ((1 : Int32) <<< (nI j &&& 31) ^^^ (-1)) = nI ((i + 1) ^^^ 2 ^ j) := (kb_andn _ _).trans (by rw [kn_pow j (by omega), kn_and, kn_xor, hxj.2])
                      have hc1 : ¬ kCt (i + 1) (j + 1) = 0 := by have := kCt_pos (n := j + 1) hbj (by omega); omega
                      have b1 : kMx (fun r => kGL ((kLs p (i + 1) 11).eraseIdx r)) (kCt (i + 1) j) ≤ 100 := kMx_le (fun r hr => Nat.le_trans (kGL_le _ _ rfl) (by have := kLs_len p (i + 1) 11; have := List.length_eraseIdx_le (kLs p (i + 1) 11) r; omega))
                      have b2 : kGL (kLs p ((i + 1) ^^^ 2 ^ j) 11) ≤ 100 := Nat.le_trans (kGL_le _ _ (kLs_len p _ 11)) (by have := kCt_b ((i + 1) ^^^ 2 ^ j) 11; omega)
                      refine kv_aload_n dX12_payments_106 rfl ?_
                      refine kw_gR dX12_payments_107 fX12_44 hv (by first | rfl | assumption) rfl rfl (by first | rfl | assumption) ?_
                      refine kv_iload_n dX12_payments_110 rfl ?_
                      refine kv_aload_n dX12_payments_111 rfl ?_
                      refine kw_gR dX12_payments_112 fX12_44 hv (by first | rfl | assumption) rfl rfl (by first | rfl | assumption) ?_
                      refine kv_iload_n dX12_payments_115 rfl ?_
                      refine kv_iconst dX12_payments_116 1 ki_1 ?_
                      refine kv_iload dX12_payments_117 rfl ?_
                      refine kv_ishl dX12_payments_119 ?_
                      refine kv_iconst dX12_payments_120 (-1) ki_m1 ?_
                      refine kv_ixor dX12_payments_121 ?_
                      refine kv_iand dX12_payments_122 ?_
                      refine kw_ll dX12_payments_123 hv (by first | rfl | assumption) ((i + 1) ^^^ 2 ^ j) ix (by omega) rfl ?_
                      rw [hz.1]
                      refine kv_aload_n dX12_payments_124 rfl ?_
                      refine kw_gR dX12_payments_125 fX12_40 hv (by first | rfl | assumption) rfl rfl (by first | rfl | assumption) ?_
                      refine kv_iload dX12_payments_128 rfl ?_
                      refine kw_ll dX12_payments_130 hv (by first | rfl | assumption) (j) rfl (by omega) rfl ?_
                      rw [hP3 j hj]
                      refine kv_ladd dX12_payments_131 ?_
                      rw [← hsum]
                      refine kw_ls dX12_payments_132 hv (by first | rfl | assumption) (i + 1) rfl (by omega) rfl ?_
                      refine kv_aload_n dX12_payments_133 rfl ?_
                      refine kw_gR dX12_payments_134 fX12_47 hv (by first | rfl | assumption) rfl rfl (by first | rfl | assumption) ?_
                      refine kv_iload_n dX12_payments_137 rfl ?_
                      refine kv_aload_n dX12_payments_138 rfl ?_
                      refine kw_gR dX12_payments_139 fX12_47 hv (by first | rfl | assumption) rfl rfl (by first | rfl | assumption) ?_
                      refine kv_iload_n dX12_payments_142 rfl ?_
                      refine kw_il dX12_payments_143 hv (by first | rfl | assumption) (i + 1) rfl (by omega) rfl ?_
                      rw [(show (kv_sg v 422 (i + 1) (kSum (kLs p (i + 1) 11))).2.1 423 (i + 1) = _ from hgr)]
                      refine kv_aload_n dX12_payments_144 rfl ?_
                      refine kw_gR dX12_payments_145 fX12_47 hv (by first | rfl | assumption) rfl rfl (by first | rfl | assumption) ?_
                      refine kv_iload_n dX12_payments_148 rfl ?_
                      refine kv_iconst dX12_payments_149 1 ki_1 ?_
                      refine kv_iload dX12_payments_150 rfl ?_
                      refine kv_ishl dX12_payments_152 ?_
                      refine kv_iconst dX12_payments_153 (-1) ki_m1 ?_
                      refine kv_ixor dX12_payments_154 ?_
                      refine kv_iand dX12_payments_155 ?_
                      refine kw_il dX12_payments_156 hv (by first | rfl | assumption) ((i + 1) ^^^ 2 ^ j) ix (by omega) rfl ?_
                      rw [(show (kv_sg v 422 (i + 1) (kSum (kLs p (i + 1) 11))).2.1 423 ((i + 1) ^^^ 2 ^ j) = _ from hz.2)]
                      refine kw_mmax dX12_payments_157 lX12_136 rfl (by omega) ?_
                      refine kw_is dX12_payments_160 hv (by first | rfl | assumption) (i + 1) rfl (by omega) rfl ?_
                      refine kv_iinc (ls2 := [_, _, _, _, _]) dX12_payments_161 (nI (j + 1)) rfl (kv_inc1 j) rfl rfl rfl rfl ?_
                      refine kv_goto dX12_payments_164 82 (by decide) ?_
                      first
                      | exact KV.loc (ih _ E3 hS3 (by rw [ec]; exact hsu) (by rw [ec]; exact hgr)) (ksS rfl (ksS rfl (ksS rfl (ksS rfl (ksS rfl ksN)))))
                      | exact KV.loc (ih _ ((E3.sg (Or.inl ⟨rfl, by omega⟩)).si (Or.inr ⟨rfl, by omega⟩)) (fun s hs hb => ⟨(kv_sg_n (by omega)).trans (hS3 s hs hb).1, (kv_si_n (by omega)).trans (hS3 s hs hb).2⟩) (by rw [if_neg hc1]; exact kv_sg_s _ _ _ _) (by rw [ec]; exact (kv_si_s _ _ _ _).trans (kn_max (by omega) (by omega)))) (ksS rfl (ksS rfl (ksS rfl (ksS rfl (ksS rfl ksN)))))
            · refine kv_iconst dX12_payments_79 0 ki_0 ?_
              refine kv_istore (ls2 := [_, _, _, _, _]) dX12_payments_80 rfl rfl rfl rfl ?_
              refine kv_iload dX12_payments_82 rfl ?_
              refine kv_bipush dX12_payments_84 11 kb_11 ?_
              refine kv_icmp_ge dX12_payments_86 167 (by decide) (fun h11 => ?_) (fun h11 => ?_)
              · exact absurd h11 (by decide)
              · refine kv_iload_n dX12_payments_89 rfl ?_
                refine kv_iload_n dX12_payments_90 rfl ?_
                refine kv_iconst dX12_payments_91 (-1) ki_m1 ?_
                refine kv_ixor dX12_payments_92 ?_
                refine kv_iand dX12_payments_93 ?_
                rw [show (nI (i + 1) &&& (nI m ^^^ (-1))) = nI ((i + 1) ^^^ ((i + 1) &&& m)) from (kb_andn _ _).trans (by rw [kn_and, kn_xor])]
                refine kv_if_ne dX12_payments_94 167 (by decide) (fun h12 => ?_) (fun h12 => ?_)
                · refine kv_aload_n dX12_payments_167 rfl ?_
                  refine kw_gR dX12_payments_168 fX12_47 hv (by first | rfl | assumption) rfl rfl (by first | rfl | assumption) ?_
                  refine kv_iload_n dX12_payments_171 rfl ?_
                  refine kv_dup2 dX12_payments_172 rfl rfl ?_
                  refine kw_il dX12_payments_173 hv (by first | rfl | assumption) (i + 1) rfl (by omega) rfl ?_
                  first | rw [hgr] | rw [kv_si_s]
                  refine kv_iload_n dX12_payments_174 rfl ?_
                  refine kv_iload_n dX12_payments_175 rfl ?_
                  refine kv_iconst dX12_payments_176 (-1) ki_m1 ?_
                  refine kv_ixor dX12_payments_177 ?_
                  refine kv_iand dX12_payments_178 ?_
                  rw [show (nI (i + 1) &&& (nI m ^^^ (-1))) = nI ((i + 1) ^^^ ((i + 1) &&& m)) from (kb_andn _ _).trans (by rw [kn_and, kn_xor])]
                  refine kv_if_ne dX12_payments_179 197 (by decide) (fun h13 => ?_) (fun h13 => ?_)
                  · refine kv_iconst dX12_payments_197 0 ki_0 ?_
                    refine kv_iadd dX12_payments_198 ?_
                    refine kw_is dX12_payments_199 hv (by first | rfl | assumption) (i + 1) rfl (by omega) rfl ?_
                    refine kv_iinc (ls2 := [_, _, _, _, _]) dX12_payments_200 (nI (i + 1 + 1)) rfl (kv_inc1 (i + 1)) rfl rfl rfl rfl ?_
                    refine kv_goto dX12_payments_203 58 (by decide) ?_
                    first
                    | (refine KV.loc (ihi _ ((E3.si (Or.inr ⟨rfl, by omega⟩))) (fun s hs hb => ?_)) (ksS rfl (ksS rfl (ksS rfl (ksS rfl (ks0 ksN)))))
                       by_cases z : s = i + 1
                       · rw [z]
                         exact ⟨hsu, (kv_si_s _ _ _ _).trans hfin⟩
                       · exact ⟨(hS3 s (by omega) hb).1, (kv_si_n (by omega)).trans (hS3 s (by omega) hb).2⟩)
                    | (refine KV.loc (ihi _ (((E.sg (Or.inl ⟨rfl, by omega⟩)).si (Or.inr ⟨rfl, by omega⟩)).si (Or.inr ⟨rfl, by omega⟩)) (fun s hs hb => ?_)) (ksS rfl (ksS rfl (ksS rfl (ksS rfl (ks0 ksN)))))
                       by_cases z : s = i + 1
                       · rw [z] at hb; exact absurd hb hsub
                       · exact ⟨(kv_sg_n (by omega)).trans (hS2 s (by omega) hb).1, (kv_si_n (by omega)).trans ((kv_si_n (by omega)).trans (hS2 s (by omega) hb).2)⟩)
                  · exact absurd (kSb_and.mp ((nI_eq (b := 0) (by have := Nat.xor_lt_two_pow (x := i + 1) (y := (i + 1) &&& m) (n := 11) ht (Nat.lt_of_le_of_lt Nat.and_le_left ht); omega) (by omega)).mp h13)) hsub
                · exact absurd (kSb_and.mp ((nI_eq (b := 0) (by have := Nat.xor_lt_two_pow (x := i + 1) (y := (i + 1) &&& m) (n := 11) ht (Nat.lt_of_le_of_lt Nat.and_le_left ht); omega) (by omega)).mp h12)) hsub
      · exact absurd (Int32.le_refl (nI 11)) h2
    · refine kv_iload_n dX12_payments_23 rfl ?_
      refine kv_bipush dX12_payments_24 11 kb_11 ?_
      refine kv_icmp_ge dX12_payments_26 56 (by decide) (fun h14 => ?_) (fun h14 => ?_)
      · exact absurd h14 (kn_ge (n := 11) hi (by omega))
      · refine kv_iload_n dX12_payments_29 rfl ?_
        refine kv_aload_n dX12_payments_30 rfl ?_
        refine kw_gR dX12_payments_31 fX12_40 hu1 (by first | rfl | assumption) rfl rfl (by first | rfl | assumption) ?_
        refine kv_iload_n dX12_payments_34 rfl ?_
        refine kw_ll dX12_payments_35 hu1 (by first | rfl | assumption) (i) rfl (by omega) rfl ?_
        rw [hp i hi]
        refine kv_lconst dX12_payments_36 0 kl_0 ?_
        refine kv_lcmp dX12_payments_37 ?_
        refine kv_if_eq dX12_payments_38 47 (by decide) (fun h15 => ?_) (fun h15 => ?_)
        · have hz : p i = 0 := (lg_cmp_eq _ _).mp h15
          have en := kSm_y hz
          refine kv_iconst dX12_payments_47 0 ki_0 ?_
          refine kv_ior dX12_payments_48 ?_
          refine kv_istore_n (ls2 := [_, _, _, _, _]) dX12_payments_49 rfl rfl rfl rfl ?_
          refine kv_iinc (ls2 := [_, _, _, _, _]) dX12_payments_50 (nI (i + 1)) rfl (kv_inc1 i) rfl rfl rfl rfl ?_
          refine kv_goto dX12_payments_53 23 (by decide) ?_
          exact KV.loc ih (ksS (by first | rfl | exact congrArg (fun z => some (Value.int z)) ((congrArg (fun z => nI (kSm p i) ||| z) (kn_pow i (by omega))).trans ((kn_or _ _).trans (congrArg nI en.symm))) | exact congrArg (fun z => some (Value.int z)) ((kn_or _ 0).trans (congrArg nI ((Nat.or_zero _).trans en.symm)))) (ksS (by first | rfl | exact congrArg (fun z => some (Value.int z)) ((congrArg (fun z => nI (kSm p i) ||| z) (kn_pow i (by omega))).trans ((kn_or _ _).trans (congrArg nI en.symm))) | exact congrArg (fun z => some (Value.int z)) ((kn_or _ 0).trans (congrArg nI ((Nat.or_zero _).trans en.symm)))) (ksS (by first | rfl | exact congrArg (fun z => some (Value.int z)) ((congrArg (fun z => nI (kSm p i) ||| z) (kn_pow i (by omega))).trans ((kn_or _ _).trans (congrArg nI en.symm))) | exact congrArg (fun z => some (Value.int z)) ((kn_or _ 0).trans (congrArg nI ((Nat.or_zero _).trans en.symm)))) (ksS (by first | rfl | exact congrArg (fun z => some (Value.int z)) ((congrArg (fun z => nI (kSm p i) ||| z) (kn_pow i (by omega))).trans ((kn_or _ _).trans (congrArg nI en.symm))) | exact congrArg (fun z => some (Value.int z)) ((kn_or _ 0).trans (congrArg nI ((Nat.or_zero _).trans en.symm)))) (ks0 ksN)))))
        · have hz : ¬ p i = 0 := fun z => h15 ((lg_cmp_eq _ _).mpr z)
          have en := kSm_n hz
          refine kv_iconst dX12_payments_41 1 ki_1 ?_
          refine kv_iload_n dX12_payments_42 rfl ?_
          refine kv_ishl dX12_payments_43 ?_
          refine kv_goto dX12_payments_44 48 (by decide) ?_
          refine kv_ior dX12_payments_48 ?_
          refine kv_istore_n (ls2 := [_, _, _, _, _]) dX12_payments_49 rfl rfl rfl rfl ?_
          refine kv_iinc (ls2 := [_, _, _, _, _]) dX12_payments_50 (nI (i + 1)) rfl (kv_inc1 i) rfl rfl rfl rfl ?_
          refine kv_goto dX12_payments_53 23 (by decide) ?_
          exact KV.loc ih (ksS (by first | rfl | exact congrArg (fun z => some (Value.int z)) ((congrArg (fun z => nI (kSm p i) ||| z) (kn_pow i (by omega))).trans ((kn_or _ _).trans (congrArg nI en.symm))) | exact congrArg (fun z => some (Value.int z)) ((kn_or _ 0).trans (congrArg nI ((Nat.or_zero _).trans en.symm)))) (ksS (by first | rfl | exact congrArg (fun z => some (Value.int z)) ((congrArg (fun z => nI (kSm p i) ||| z) (kn_pow i (by omega))).trans ((kn_or _ _).trans (congrArg nI en.symm))) | exact congrArg (fun z => some (Value.int z)) ((kn_or _ 0).trans (congrArg nI ((Nat.or_zero _).trans en.symm)))) (ksS (by first | rfl | exact congrArg (fun z => some (Value.int z)) ((congrArg (fun z => nI (kSm p i) ||| z) (kn_pow i (by omega))).trans ((kn_or _ _).trans (congrArg nI en.symm))) | exact congrArg (fun z => some (Value.int z)) ((kn_or _ 0).trans (congrArg nI ((Nat.or_zero _).trans en.symm)))) (ksS (by first | rfl | exact congrArg (fun z => some (Value.int z)) ((congrArg (fun z => nI (kSm p i) ||| z) (kn_pow i (by omega))).trans ((kn_or _ _).trans (congrArg nI en.symm))) | exact congrArg (fun z => some (Value.int z)) ((kn_or _ 0).trans (congrArg nI ((Nat.or_zero _).trans en.symm)))) (ks0 ksN)))))
  · have hS : kpayments a p0 = (-1000001, kF a 1) := if_pos ((kIn_n h1))
    refine kv_aload_n dX12_payments_7 rfl ?_
    refine kv_ldc dX12_payments_8 kX12_83 ?_
    refine kw_Vi [_] mX12_finding dX12_payments_10 lX12_84 wX12_finding kC12 hu rfl (by first | rfl | assumption) rfl rfl rfl (qX12_finding (by exact hu) 1 (by decide) (by decide) _ (by decide)) (by decide) ?_
    exact kv_iret dX12_payments_13 rfl (by rw [hS]; exact kOM.no hm hu rfl)

theorem kpayments_ok {a : KA} (ho : kOk a) (p0 : Int32) : kOk (kpayments a p0).2 := by
  unfold kpayments
  split
  · exact ho.fnd 1
  · exact ho
