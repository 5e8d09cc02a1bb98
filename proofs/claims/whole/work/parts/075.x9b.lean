def kS7 (a _k : Nat) : Prop := a = 387
theorem kS7_X {u v : KMem} (h : kEq kS7 u v) : kEq kSX u v := h.wk (fun a k q => Or.inl (by unfold kS7 at q; omega))
theorem kEnc_n {c : Int32} (h : ¬ 10000 ≤ c) : kEnc c = c := by unfold kEnc; rw [if_pos h]
set_option maxRecDepth 20000 in
set_option maxHeartbeats 4000000 in
theorem qX9_comesTo {w : KW} {l : Launch} {u : KMem} (hu : kWd u) {g : Nat → Int32} (hr : kRS 1 g u) (hg : kGI g) (t : Nat) (ht : t < kN g 3) {a b c d : Int32} (ha : u.2.1 386 0 = a) (hb : u.2.1 386 1 = b) (hcc : u.2.1 386 2 = c) (hd : u.2.1 386 3 = d) : KC w l mX9_comesTo 1 0 0 [.ref (1 + (132 + 2 * t)), .ref 386, .ref 387] u (kp kSX u (some (.int (kGiven g t a b c d)))) := by
  have ht10 := (hg.cnt (k := 3) rfl).2
  obtain ⟨-, -, hn, hD⟩ := hg.2.2.2.2.2.2.1 t ht
  have hn0 : g (468 + 66 * t + 2) = nI (kN g (468 + 66 * t + 2)) ∧ kN g (468 + 66 * t + 2) ≤ 60 := hn.n (by omega)
  have hn60 := hn0.2
  have kt := ks_treaty t (by omega)
  have kt1 := kt.1
  have kt2 := kt.2.1
  have kt3 := kt.2.2.1
  refine KC.of (ls := [_, _, _, _, _, _]) rfl rfl (Nat.le_of_ble_eq_true rfl) ?_
  refine kv_iconst dX9_comesTo_0 (-1) ki_m1 ?_
  refine kv_istore_n (ls2 := [_, _, _, _, _, _]) dX9_comesTo_1 rfl rfl rfl rfl ?_
  refine kv_iconst dX9_comesTo_2 0 ki_0 ?_
  refine kv_istore (ls2 := [_, _, _, _, _, _]) dX9_comesTo_3 rfl rfl rfl rfl ?_
  refine KV.loc (ls2 := [some (.ref (1 + (132 + 2 * t))), some (.ref 386), some (.ref 387), some (.int (nI 0 - 1)), some (.int (nI 0)), none]) ?_ (ksS rfl (ksS rfl (ksS rfl (ksS rfl (ksS rfl (ks0 ksN))))))
  refine kn_loop (P := fun i => ∀ (v : KMem) (L : List Int32), kGv (fun k => g (468 + 66 * t + 3 + k)) a b c d i = L → kEq kS7 u v → kPi 387 v L → KV w l mX9_comesTo 1 0 0 5 [some (.ref (1 + (132 + 2 * t))), some (.ref 386), some (.ref 387), some (.int (nI L.length - 1)), some (.int (nI i)), none] [] v (kp kSX u (some (.int (kGiven g t a b c d))))) (kN g (468 + 66 * t + 2)) ?_ (fun i hi ih => ?_) u [] rfl kEq.rf trivial
  · intro v L hL E hP
    have hu2 := E.wd hu
    have hrv := hr.eqX hg (kS7_X E)
    have hl1 := kGv_len (a := a) (b := b) (c := c) (d := d) hD
    rw [hL] at hl1
    rw [hl1]
    refine kv_iload dX9_comesTo_5 rfl ?_
    refine kv_aload_n dX9_comesTo_7 rfl ?_
    refine kw_gI dX9_comesTo_8 fX9_22 hu2 (by first | rfl | assumption) rfl rfl ?_
    rw [hrv.tlen ht, hn0.1]
    refine kv_icmp_ge dX9_comesTo_11 185 (by decide) (fun h1 => ?_) (fun h1 => ?_)
    · refine kv_iload_n dX9_comesTo_185 rfl ?_
      refine kv_if_lt dX9_comesTo_186 195 (by decide) (fun h2 => ?_) (fun h2 => ?_)
      · exact absurd h2 (by decide)
      · refine kv_aload_n dX9_comesTo_189 rfl ?_
        refine kv_iload_n dX9_comesTo_190 rfl ?_
        refine kw_il dX9_comesTo_191 hu2 (by first | rfl | assumption) (0) (by decide) (by decide) rfl ?_
        refine kv_goto dX9_comesTo_192 196 (by decide) ?_
        exact kv_iret dX9_comesTo_196 rfl ⟨kGv_end hD hL hP, kS7_X E⟩
    · exact (kn_nge h1).elim
  · intro v L hL E hP
    have hu2 := E.wd hu
    have hrv := hr.eqX hg (kS7_X E)
    obtain ⟨hl, hone, htwo⟩ := kGv_at (a := a) (b := b) (c := c) (d := d) hD hi
    rw [hL] at hl hone htwo
    refine kv_iload dX9_comesTo_5 rfl ?_
    refine kv_aload_n dX9_comesTo_7 rfl ?_
    refine kw_gI dX9_comesTo_8 fX9_22 hu2 (by first | rfl | assumption) rfl rfl ?_
    rw [hrv.tlen ht, hn0.1]
    refine kv_icmp_ge dX9_comesTo_11 185 (by decide) (fun h3 => ?_) (fun h3 => ?_)
    · exact absurd h3 (kn_ge hi (by omega))
    · refine kv_aload_n dX9_comesTo_14 rfl ?_
      refine kw_gR dX9_comesTo_15 fX9_9 hu2 (by first | rfl | assumption) rfl rfl (by first | rfl | assumption) ?_
      refine kv_iload dX9_comesTo_18 rfl ?_
      refine kw_il dX9_comesTo_20 hu2 (by first | rfl | assumption) (i) rfl (by omega) rfl ?_
      rw [hrv.step ht hi]
      refine kv_istore (ls2 := [_, _, _, _, _, _]) dX9_comesTo_21 rfl rfl rfl rfl ?_
      rcases kCode hD hi with hc | hc | hc | hc | hc | hc | hc | hc | hc | hc | hc | hc | hc | hc | hc | hc | hc | hc
      · have hG : kGv (fun k => g (468 + 66 * t + 3 + k)) a b c d (i + 1) = (g (468 + 66 * t + 3 + i)) :: L := by
          rw [kGv, hL]; unfold kGs; rw [if_pos (show ¬ 20000 ≤ (g (468 + 66 * t + 3 + i)) from fun q => hc.2 (by rw [kLe, kT10000]; rw [kLe, kT20000] at q; omega)), if_pos (show ¬ 10000 ≤ (g (468 + 66 * t + 3 + i)) from hc.2)]
        rw [kEnc_n hc.2]
        refine kv_iload dX9_comesTo_23 rfl ?_
        refine kv_if_lt dX9_comesTo_25 47 (by decide) (fun h4 => ?_) (fun h4 => ?_)
        · exact absurd h4 hc.1
        · refine kv_iload_n dX9_comesTo_28 rfl ?_
          refine kv_iconst dX9_comesTo_29 1 ki_1 ?_
          refine kv_iadd dX9_comesTo_30 ?_
          rw [kn_pm]
          refine kv_aload_n dX9_comesTo_31 rfl ?_
          refine kw_len (t := 0) dX9_comesTo_32 hu2 (by first | rfl | assumption) rfl rfl ?_
          refine kv_icmp_ge dX9_comesTo_33 47 (by decide) (fun h5 => ?_) (fun h5 => ?_)
          · exact absurd h5 (nI_ge (b := 60) (by omega) (by omega))
          · refine kv_iinc (ls2 := [_, _, _, _, _, _]) dX9_comesTo_36 (nI (L.length)) rfl (kn_pi _) rfl rfl rfl rfl ?_
            refine kv_aload_n dX9_comesTo_39 rfl ?_
            refine kv_iload_n dX9_comesTo_40 rfl ?_
            refine kv_iload dX9_comesTo_41 rfl ?_
            refine kw_is dX9_comesTo_43 hu2 (by first | rfl | assumption) (L.length) rfl (by omega) rfl ?_
            refine kv_goto dX9_comesTo_44 179 (by decide) ?_
            refine kv_iinc (ls2 := [_, _, _, _, _, _]) dX9_comesTo_179 (nI (i + 1)) rfl (kv_inc1 i) rfl rfl rfl rfl ?_
            refine kv_goto dX9_comesTo_182 5 (by decide) ?_
            first | exact KV.loc (ih _ _ hG (E.si rfl) hP.push) (ksS rfl (ksS rfl (ksS rfl (ksS (congrArg (fun z => some (Value.int z)) (nI_pred _).symm) (ksS rfl (ks0 ksN)))))) | exact KV.loc (ih _ _ hG (E.si rfl) (kPi.push hP.2)) (ksS rfl (ksS rfl (ksS rfl (ksS (congrArg (fun z => some (Value.int z)) (nI_pred _).symm) (ksS rfl (ks0 ksN)))))) | exact KV.loc (ih _ _ hG (E.si rfl) (kPi.push hP.2.2)) (ksS rfl (ksS rfl (ksS rfl (ksS (congrArg (fun z => some (Value.int z)) (nI_pred _).symm) (ksS rfl (ks0 ksN))))))
      · have hG : kGv (fun k => g (468 + 66 * t + 3 + k)) a b c d (i + 1) = a :: L := by rw [kGv, hL]; show kGs _ _ _ _ (g (468 + 66 * t + 3 + i)) _ = _; rw [hc]; rfl
        rw [hc, show kEnc 10000 = -1 from by decide]
        refine kv_iload dX9_comesTo_23 rfl ?_
        refine kv_if_lt dX9_comesTo_25 47 (by decide) (fun h6 => ?_) (fun h6 => ?_)
        · refine kv_iload dX9_comesTo_47 rfl ?_
          refine kv_if_ge dX9_comesTo_49 92 (by decide) (fun h7 => ?_) (fun h7 => ?_)
          · exact absurd h7 (by decide)
          · refine kv_iload dX9_comesTo_52 rfl ?_
            refine kv_sipush dX9_comesTo_54 (-1000) kz_m1000 ?_
            refine kv_icmp_le dX9_comesTo_57 92 (by decide) (fun h8 => ?_) (fun h8 => ?_)
            · exact absurd h8 (by decide)
            · refine kv_iconst dX9_comesTo_60 (-1) ki_m1 ?_
              refine kv_iload dX9_comesTo_61 rfl ?_
              refine kv_isub dX9_comesTo_63 ?_
              refine kv_aload_n dX9_comesTo_64 rfl ?_
              refine kw_len (t := 0) dX9_comesTo_65 hu2 (by first | rfl | assumption) rfl rfl ?_
              refine kv_icmp_ge dX9_comesTo_66 92 (by decide) (fun h9 => ?_) (fun h9 => ?_)
              · exact absurd h9 (by decide)
              · refine kv_iload_n dX9_comesTo_69 rfl ?_
                refine kv_iconst dX9_comesTo_70 1 ki_1 ?_
                refine kv_iadd dX9_comesTo_71 ?_
                rw [kn_pm]
                refine kv_aload_n dX9_comesTo_72 rfl ?_
                refine kw_len (t := 0) dX9_comesTo_73 hu2 (by first | rfl | assumption) rfl rfl ?_
                refine kv_icmp_ge dX9_comesTo_74 92 (by decide) (fun h10 => ?_) (fun h10 => ?_)
                · exact absurd h10 (nI_ge (b := 60) (by omega) (by omega))
                · refine kv_iinc (ls2 := [_, _, _, _, _, _]) dX9_comesTo_77 (nI (L.length)) rfl (kn_pi _) rfl rfl rfl rfl ?_
                  refine kv_aload_n dX9_comesTo_80 rfl ?_
                  refine kv_iload_n dX9_comesTo_81 rfl ?_
                  refine kv_aload_n dX9_comesTo_82 rfl ?_
                  refine kv_iconst dX9_comesTo_83 (-1) ki_m1 ?_
                  refine kv_iload dX9_comesTo_84 rfl ?_
                  refine kv_isub dX9_comesTo_86 ?_
                  refine kw_il dX9_comesTo_87 hu2 (by first | rfl | assumption) (0) (by decide) (by decide) rfl ?_
                  rw [E.2.2.1 386 0 (by unfold kS7; omega), ha]
                  refine kw_is dX9_comesTo_88 hu2 (by first | rfl | assumption) (L.length) rfl (by omega) rfl ?_
                  refine kv_goto dX9_comesTo_89 179 (by decide) ?_
                  refine kv_iinc (ls2 := [_, _, _, _, _, _]) dX9_comesTo_179 (nI (i + 1)) rfl (kv_inc1 i) rfl rfl rfl rfl ?_
                  refine kv_goto dX9_comesTo_182 5 (by decide) ?_
                  first | exact KV.loc (ih _ _ hG (E.si rfl) hP.push) (ksS rfl (ksS rfl (ksS rfl (ksS (congrArg (fun z => some (Value.int z)) (nI_pred _).symm) (ksS rfl (ks0 ksN)))))) | exact KV.loc (ih _ _ hG (E.si rfl) (kPi.push hP.2)) (ksS rfl (ksS rfl (ksS rfl (ksS (congrArg (fun z => some (Value.int z)) (nI_pred _).symm) (ksS rfl (ks0 ksN)))))) | exact KV.loc (ih _ _ hG (E.si rfl) (kPi.push hP.2.2)) (ksS rfl (ksS rfl (ksS rfl (ksS (congrArg (fun z => some (Value.int z)) (nI_pred _).symm) (ksS rfl (ks0 ksN))))))
        · exact absurd (by decide) h6
      · have hG : kGv (fun k => g (468 + 66 * t + 3 + k)) a b c d (i + 1) = b :: L := by rw [kGv, hL]; show kGs _ _ _ _ (g (468 + 66 * t + 3 + i)) _ = _; rw [hc]; rfl
        rw [hc, show kEnc 10001 = -2 from by decide]
        refine kv_iload dX9_comesTo_23 rfl ?_
        refine kv_if_lt dX9_comesTo_25 47 (by decide) (fun h11 => ?_) (fun h11 => ?_)
        · refine kv_iload dX9_comesTo_47 rfl ?_
          refine kv_if_ge dX9_comesTo_49 92 (by decide) (fun h12 => ?_) (fun h12 => ?_)
          · exact absurd h12 (by decide)
          · refine kv_iload dX9_comesTo_52 rfl ?_
            refine kv_sipush dX9_comesTo_54 (-1000) kz_m1000 ?_
            refine kv_icmp_le dX9_comesTo_57 92 (by decide) (fun h13 => ?_) (fun h13 => ?_)
            · exact absurd h13 (by decide)
            · refine kv_iconst dX9_comesTo_60 (-1) ki_m1 ?_
              refine kv_iload dX9_comesTo_61 rfl ?_
              refine kv_isub dX9_comesTo_63 ?_
              refine kv_aload_n dX9_comesTo_64 rfl ?_
              refine kw_len (t := 0) dX9_comesTo_65 hu2 (by first | rfl | assumption) rfl rfl ?_
              refine kv_icmp_ge dX9_comesTo_66 92 (by decide) (fun h14 => ?_) (fun h14 => ?_)
              · exact absurd h14 (by decide)
              · refine kv_iload_n dX9_comesTo_69 rfl ?_
                refine kv_iconst dX9_comesTo_70 1 ki_1 ?_
                refine kv_iadd dX9_comesTo_71 ?_
                rw [kn_pm]
                refine kv_aload_n dX9_comesTo_72 rfl ?_
                refine kw_len (t := 0) dX9_comesTo_73 hu2 (by first | rfl | assumption) rfl rfl ?_
                refine kv_icmp_ge dX9_comesTo_74 92 (by decide) (fun h15 => ?_) (fun h15 => ?_)
                · exact absurd h15 (nI_ge (b := 60) (by omega) (by omega))
                · refine kv_iinc (ls2 := [_, _, _, _, _, _]) dX9_comesTo_77 (nI (L.length)) rfl (kn_pi _) rfl rfl rfl rfl ?_
                  refine kv_aload_n dX9_comesTo_80 rfl ?_
                  refine kv_iload_n dX9_comesTo_81 rfl ?_
                  refine kv_aload_n dX9_comesTo_82 rfl ?_
                  refine kv_iconst dX9_comesTo_83 (-1) ki_m1 ?_
                  refine kv_iload dX9_comesTo_84 rfl ?_
                  refine kv_isub dX9_comesTo_86 ?_
                  refine kw_il dX9_comesTo_87 hu2 (by first | rfl | assumption) (1) (by decide) (by decide) rfl ?_
                  rw [E.2.2.1 386 1 (by unfold kS7; omega), hb]
                  refine kw_is dX9_comesTo_88 hu2 (by first | rfl | assumption) (L.length) rfl (by omega) rfl ?_
                  refine kv_goto dX9_comesTo_89 179 (by decide) ?_
                  refine kv_iinc (ls2 := [_, _, _, _, _, _]) dX9_comesTo_179 (nI (i + 1)) rfl (kv_inc1 i) rfl rfl rfl rfl ?_
                  refine kv_goto dX9_comesTo_182 5 (by decide) ?_
                  first | exact KV.loc (ih _ _ hG (E.si rfl) hP.push) (ksS rfl (ksS rfl (ksS rfl (ksS (congrArg (fun z => some (Value.int z)) (nI_pred _).symm) (ksS rfl (ks0 ksN)))))) | exact KV.loc (ih _ _ hG (E.si rfl) (kPi.push hP.2)) (ksS rfl (ksS rfl (ksS rfl (ksS (congrArg (fun z => some (Value.int z)) (nI_pred _).symm) (ksS rfl (ks0 ksN)))))) | exact KV.loc (ih _ _ hG (E.si rfl) (kPi.push hP.2.2)) (ksS rfl (ksS rfl (ksS rfl (ksS (congrArg (fun z => some (Value.int z)) (nI_pred _).symm) (ksS rfl (ks0 ksN))))))
        · exact absurd (by decide) h11
      · have hG : kGv (fun k => g (468 + 66 * t + 3 + k)) a b c d (i + 1) = c :: L := by rw [kGv, hL]; show kGs _ _ _ _ (g (468 + 66 * t + 3 + i)) _ = _; rw [hc]; rfl
        rw [hc, show kEnc 10002 = -3 from by decide]
        refine kv_iload dX9_comesTo_23 rfl ?_
        refine kv_if_lt dX9_comesTo_25 47 (by decide) (fun h16 => ?_) (fun h16 => ?_)
        · refine kv_iload dX9_comesTo_47 rfl ?_
          refine kv_if_ge dX9_comesTo_49 92 (by decide) (fun h17 => ?_) (fun h17 => ?_)
          · exact absurd h17 (by decide)
          · refine kv_iload dX9_comesTo_52 rfl ?_
            refine kv_sipush dX9_comesTo_54 (-1000) kz_m1000 ?_
            refine kv_icmp_le dX9_comesTo_57 92 (by decide) (fun h18 => ?_) (fun h18 => ?_)
            · exact absurd h18 (by decide)
            · refine kv_iconst dX9_comesTo_60 (-1) ki_m1 ?_
              refine kv_iload dX9_comesTo_61 rfl ?_
              refine kv_isub dX9_comesTo_63 ?_
              refine kv_aload_n dX9_comesTo_64 rfl ?_
              refine kw_len (t := 0) dX9_comesTo_65 hu2 (by first | rfl | assumption) rfl rfl ?_
              refine kv_icmp_ge dX9_comesTo_66 92 (by decide) (fun h19 => ?_) (fun h19 => ?_)
              · exact absurd h19 (by decide)
              · refine kv_iload_n dX9_comesTo_69 rfl ?_
                refine kv_iconst dX9_comesTo_70 1 ki_1 ?_
                refine kv_iadd dX9_comesTo_71 ?_
                rw [kn_pm]
                refine kv_aload_n dX9_comesTo_72 rfl ?_
                refine kw_len (t := 0) dX9_comesTo_73 hu2 (by first | rfl | assumption) rfl rfl ?_
                refine kv_icmp_ge dX9_comesTo_74 92 (by decide) (fun h20 => ?_) (fun h20 => ?_)
                · exact absurd h20 (nI_ge (b := 60) (by omega) (by omega))
                · refine kv_iinc (ls2 := [_, _, _, _, _, _]) dX9_comesTo_77 (nI (L.length)) rfl (kn_pi _) rfl rfl rfl rfl ?_
                  refine kv_aload_n dX9_comesTo_80 rfl ?_
                  refine kv_iload_n dX9_comesTo_81 rfl ?_
                  refine kv_aload_n dX9_comesTo_82 rfl ?_
                  refine kv_iconst dX9_comesTo_83 (-1) ki_m1 ?_
                  refine kv_iload dX9_comesTo_84 rfl ?_
                  refine kv_isub dX9_comesTo_86 ?_
                  refine kw_il dX9_comesTo_87 hu2 (by first | rfl | assumption) (2) (by decide) (by decide) rfl ?_
                  rw [E.2.2.1 386 2 (by unfold kS7; omega), hcc]
                  refine kw_is dX9_comesTo_88 hu2 (by first | rfl | assumption) (L.length) rfl (by omega) rfl ?_
                  refine kv_goto dX9_comesTo_89 179 (by decide) ?_
                  refine kv_iinc (ls2 := [_, _, _, _, _, _]) dX9_comesTo_179 (nI (i + 1)) rfl (kv_inc1 i) rfl rfl rfl rfl ?_
                  refine kv_goto dX9_comesTo_182 5 (by decide) ?_
                  first | exact KV.loc (ih _ _ hG (E.si rfl) hP.push) (ksS rfl (ksS rfl (ksS rfl (ksS (congrArg (fun z => some (Value.int z)) (nI_pred _).symm) (ksS rfl (ks0 ksN)))))) | exact KV.loc (ih _ _ hG (E.si rfl) (kPi.push hP.2)) (ksS rfl (ksS rfl (ksS rfl (ksS (congrArg (fun z => some (Value.int z)) (nI_pred _).symm) (ksS rfl (ks0 ksN)))))) | exact KV.loc (ih _ _ hG (E.si rfl) (kPi.push hP.2.2)) (ksS rfl (ksS rfl (ksS rfl (ksS (congrArg (fun z => some (Value.int z)) (nI_pred _).symm) (ksS rfl (ks0 ksN))))))
        · exact absurd (by decide) h16
      · have hG : kGv (fun k => g (468 + 66 * t + 3 + k)) a b c d (i + 1) = d :: L := by rw [kGv, hL]; show kGs _ _ _ _ (g (468 + 66 * t + 3 + i)) _ = _; rw [hc]; rfl
        rw [hc, show kEnc 10003 = -4 from by decide]
        refine kv_iload dX9_comesTo_23 rfl ?_
        refine kv_if_lt dX9_comesTo_25 47 (by decide) (fun h21 => ?_) (fun h21 => ?_)
        · refine kv_iload dX9_comesTo_47 rfl ?_
          refine kv_if_ge dX9_comesTo_49 92 (by decide) (fun h22 => ?_) (fun h22 => ?_)
          · exact absurd h22 (by decide)
          · refine kv_iload dX9_comesTo_52 rfl ?_
            refine kv_sipush dX9_comesTo_54 (-1000) kz_m1000 ?_
            refine kv_icmp_le dX9_comesTo_57 92 (by decide) (fun h23 => ?_) (fun h23 => ?_)
            · exact absurd h23 (by decide)
            · refine kv_iconst dX9_comesTo_60 (-1) ki_m1 ?_
              refine kv_iload dX9_comesTo_61 rfl ?_
              refine kv_isub dX9_comesTo_63 ?_
              refine kv_aload_n dX9_comesTo_64 rfl ?_
              refine kw_len (t := 0) dX9_comesTo_65 hu2 (by first | rfl | assumption) rfl rfl ?_
              refine kv_icmp_ge dX9_comesTo_66 92 (by decide) (fun h24 => ?_) (fun h24 => ?_)
              · exact absurd h24 (by decide)
              · refine kv_iload_n dX9_comesTo_69 rfl ?_
                refine kv_iconst dX9_comesTo_70 1 ki_1 ?_
                refine kv_iadd dX9_comesTo_71 ?_
                rw [kn_pm]
                refine kv_aload_n dX9_comesTo_72 rfl ?_
                refine kw_len (t := 0) dX9_comesTo_73 hu2 (by first | rfl | assumption) rfl rfl ?_
                refine kv_icmp_ge dX9_comesTo_74 92 (by decide) (fun h25 => ?_) (fun h25 => ?_)
                · exact absurd h25 (nI_ge (b := 60) (by omega) (by omega))
                · refine kv_iinc (ls2 := [_, _, _, _, _, _]) dX9_comesTo_77 (nI (L.length)) rfl (kn_pi _) rfl rfl rfl rfl ?_
                  refine kv_aload_n dX9_comesTo_80 rfl ?_
                  refine kv_iload_n dX9_comesTo_81 rfl ?_
                  refine kv_aload_n dX9_comesTo_82 rfl ?_
                  refine kv_iconst dX9_comesTo_83 (-1) ki_m1 ?_
                  refine kv_iload dX9_comesTo_84 rfl ?_
                  refine kv_isub dX9_comesTo_86 ?_
                  refine kw_il dX9_comesTo_87 hu2 (by first | rfl | assumption) (3) (by decide) (by decide) rfl ?_
                  rw [E.2.2.1 386 3 (by unfold kS7; omega), hd]
                  refine kw_is dX9_comesTo_88 hu2 (by first | rfl | assumption) (L.length) rfl (by omega) rfl ?_
                  refine kv_goto dX9_comesTo_89 179 (by decide) ?_
                  refine kv_iinc (ls2 := [_, _, _, _, _, _]) dX9_comesTo_179 (nI (i + 1)) rfl (kv_inc1 i) rfl rfl rfl rfl ?_
                  refine kv_goto dX9_comesTo_182 5 (by decide) ?_
                  first | exact KV.loc (ih _ _ hG (E.si rfl) hP.push) (ksS rfl (ksS rfl (ksS rfl (ksS (congrArg (fun z => some (Value.int z)) (nI_pred _).symm) (ksS rfl (ks0 ksN)))))) | exact KV.loc (ih _ _ hG (E.si rfl) (kPi.push hP.2)) (ksS rfl (ksS rfl (ksS rfl (ksS (congrArg (fun z => some (Value.int z)) (nI_pred _).symm) (ksS rfl (ks0 ksN)))))) | exact KV.loc (ih _ _ hG (E.si rfl) (kPi.push hP.2.2)) (ksS rfl (ksS rfl (ksS rfl (ksS (congrArg (fun z => some (Value.int z)) (nI_pred _).symm) (ksS rfl (ks0 ksN))))))
        · exact absurd (by decide) h21
      · obtain ⟨y, t2, rfl⟩ := hone (Or.inl hc)
        have hy : v.2.1 387 t2.length = y := hP.1
        have hG : kGv (fun k => g (468 + 66 * t + 3 + k)) a b c d (i + 1) = (if y = 0 then 1 else 0) :: t2 := by rw [kGv, hL]; show kGs _ _ _ _ (g (468 + 66 * t + 3 + i)) _ = _; rw [hc]; rfl
        rw [hc, show kEnc 20011 = -1033 from by decide, show nI (y :: t2).length - 1 = nI t2.length from nI_pred _]
        refine kv_iload dX9_comesTo_23 rfl ?_
        refine kv_if_lt dX9_comesTo_25 47 (by decide) (fun h26 => ?_) (fun h26 => ?_)
        · refine kv_iload dX9_comesTo_47 rfl ?_
          refine kv_if_ge dX9_comesTo_49 92 (by decide) (fun h27 => ?_) (fun h27 => ?_)
          · exact absurd h27 (by decide)
          · refine kv_iload dX9_comesTo_52 rfl ?_
            refine kv_sipush dX9_comesTo_54 (-1000) kz_m1000 ?_
            refine kv_icmp_le dX9_comesTo_57 92 (by decide) (fun h28 => ?_) (fun h28 => ?_)
            · refine kv_iload dX9_comesTo_92 rfl ?_
              refine kv_sipush dX9_comesTo_94 (-1033) kz_m1033 ?_
              refine kv_icmp_ne dX9_comesTo_97 121 (by decide) (fun h29 => ?_) (fun h29 => ?_)
              · exact absurd rfl h29
              · refine kv_iload_n dX9_comesTo_100 rfl ?_
                refine kv_if_lt dX9_comesTo_101 121 (by decide) (fun h30 => ?_) (fun h30 => ?_)
                · exact absurd h30 (nI_pos (by simp at hl; omega))
                · refine kv_aload_n dX9_comesTo_104 rfl ?_
                  refine kv_iload_n dX9_comesTo_105 rfl ?_
                  refine kv_aload_n dX9_comesTo_106 rfl ?_
                  refine kv_iload_n dX9_comesTo_107 rfl ?_
                  refine kw_il dX9_comesTo_108 hu2 (by first | rfl | assumption) (t2.length) rfl (by simp at hl; omega) rfl ?_
                  rw [hy]
                  refine kv_if_ne dX9_comesTo_109 116 (by decide) (fun h31 => ?_) (fun h31 => ?_)
                  · have hG2 : kGv (fun k => g (468 + 66 * t + 3 + k)) a b c d (i + 1) = 0 :: t2 := by rw [hG, if_neg h31]
                    clear hG
                    have hG := hG2
                    refine kv_iconst dX9_comesTo_116 0 ki_0 ?_
                    refine kw_is dX9_comesTo_117 hu2 (by first | rfl | assumption) (t2.length) rfl (by simp at hl; omega) rfl ?_
                    refine kv_goto dX9_comesTo_118 179 (by decide) ?_
                    refine kv_iinc (ls2 := [_, _, _, _, _, _]) dX9_comesTo_179 (nI (i + 1)) rfl (kv_inc1 i) rfl rfl rfl rfl ?_
                    refine kv_goto dX9_comesTo_182 5 (by decide) ?_
                    first | exact KV.loc (ih _ _ hG (E.si rfl) hP.push) (ksS rfl (ksS rfl (ksS rfl (ksS (congrArg (fun z => some (Value.int z)) (nI_pred _).symm) (ksS rfl (ks0 ksN)))))) | exact KV.loc (ih _ _ hG (E.si rfl) (kPi.push hP.2)) (ksS rfl (ksS rfl (ksS rfl (ksS (congrArg (fun z => some (Value.int z)) (nI_pred _).symm) (ksS rfl (ks0 ksN)))))) | exact KV.loc (ih _ _ hG (E.si rfl) (kPi.push hP.2.2)) (ksS rfl (ksS rfl (ksS rfl (ksS (congrArg (fun z => some (Value.int z)) (nI_pred _).symm) (ksS rfl (ks0 ksN))))))
                  · have hG2 : kGv (fun k => g (468 + 66 * t + 3 + k)) a b c d (i + 1) = 1 :: t2 := by rw [hG, if_pos h31]
                    clear hG
                    have hG := hG2
                    refine kv_iconst dX9_comesTo_112 1 ki_1 ?_
                    refine kv_goto dX9_comesTo_113 117 (by decide) ?_
                    refine kw_is dX9_comesTo_117 hu2 (by first | rfl | assumption) (t2.length) rfl (by simp at hl; omega) rfl ?_
                    refine kv_goto dX9_comesTo_118 179 (by decide) ?_
                    refine kv_iinc (ls2 := [_, _, _, _, _, _]) dX9_comesTo_179 (nI (i + 1)) rfl (kv_inc1 i) rfl rfl rfl rfl ?_
                    refine kv_goto dX9_comesTo_182 5 (by decide) ?_
                    first | exact KV.loc (ih _ _ hG (E.si rfl) hP.push) (ksS rfl (ksS rfl (ksS rfl (ksS (congrArg (fun z => some (Value.int z)) (nI_pred _).symm) (ksS rfl (ks0 ksN)))))) | exact KV.loc (ih _ _ hG (E.si rfl) (kPi.push hP.2)) (ksS rfl (ksS rfl (ksS rfl (ksS (congrArg (fun z => some (Value.int z)) (nI_pred _).symm) (ksS rfl (ks0 ksN)))))) | exact KV.loc (ih _ _ hG (E.si rfl) (kPi.push hP.2.2)) (ksS rfl (ksS rfl (ksS rfl (ksS (congrArg (fun z => some (Value.int z)) (nI_pred _).symm) (ksS rfl (ks0 ksN))))))
            · exact absurd (by decide) h28
        · exact absurd (by decide) h26
      · obtain ⟨y, t2, rfl⟩ := hone (Or.inr hc)
        have hy : v.2.1 387 t2.length = y := hP.1
        have hG : kGv (fun k => g (468 + 66 * t + 3 + k)) a b c d (i + 1) = (-y) :: t2 := by rw [kGv, hL]; show kGs _ _ _ _ (g (468 + 66 * t + 3 + i)) _ = _; rw [hc]; rfl
        rw [hc, show kEnc 20012 = -1110 from by decide, show nI (y :: t2).length - 1 = nI t2.length from nI_pred _]
        refine kv_iload dX9_comesTo_23 rfl ?_
        refine kv_if_lt dX9_comesTo_25 47 (by decide) (fun h32 => ?_) (fun h32 => ?_)
        · refine kv_iload dX9_comesTo_47 rfl ?_
          refine kv_if_ge dX9_comesTo_49 92 (by decide) (fun h33 => ?_) (fun h33 => ?_)
          · exact absurd h33 (by decide)
          · refine kv_iload dX9_comesTo_52 rfl ?_
            refine kv_sipush dX9_comesTo_54 (-1000) kz_m1000 ?_
            refine kv_icmp_le dX9_comesTo_57 92 (by decide) (fun h34 => ?_) (fun h34 => ?_)
            · refine kv_iload dX9_comesTo_92 rfl ?_
              refine kv_sipush dX9_comesTo_94 (-1033) kz_m1033 ?_
              refine kv_icmp_ne dX9_comesTo_97 121 (by decide) (fun h35 => ?_) (fun h35 => ?_)
              · refine kv_iload dX9_comesTo_121 rfl ?_
                refine kv_sipush dX9_comesTo_123 (-1110) kz_m1110 ?_
                refine kv_icmp_ne dX9_comesTo_126 143 (by decide) (fun h36 => ?_) (fun h36 => ?_)
                · exact absurd rfl h36
                · refine kv_iload_n dX9_comesTo_129 rfl ?_
                  refine kv_if_lt dX9_comesTo_130 143 (by decide) (fun h37 => ?_) (fun h37 => ?_)
                  · exact absurd h37 (nI_pos (by simp at hl; omega))
                  · refine kv_aload_n dX9_comesTo_133 rfl ?_
                    refine kv_iload_n dX9_comesTo_134 rfl ?_
                    refine kv_aload_n dX9_comesTo_135 rfl ?_
                    refine kv_iload_n dX9_comesTo_136 rfl ?_
                    refine kw_il dX9_comesTo_137 hu2 (by first | rfl | assumption) (t2.length) rfl (by simp at hl; omega) rfl ?_
                    rw [hy]
                    refine kv_ineg dX9_comesTo_138 ?_
                    refine kw_is dX9_comesTo_139 hu2 (by first | rfl | assumption) (t2.length) rfl (by simp at hl; omega) rfl ?_
                    refine kv_goto dX9_comesTo_140 179 (by decide) ?_
                    refine kv_iinc (ls2 := [_, _, _, _, _, _]) dX9_comesTo_179 (nI (i + 1)) rfl (kv_inc1 i) rfl rfl rfl rfl ?_
                    refine kv_goto dX9_comesTo_182 5 (by decide) ?_
                    first | exact KV.loc (ih _ _ hG (E.si rfl) hP.push) (ksS rfl (ksS rfl (ksS rfl (ksS (congrArg (fun z => some (Value.int z)) (nI_pred _).symm) (ksS rfl (ks0 ksN)))))) | exact KV.loc (ih _ _ hG (E.si rfl) (kPi.push hP.2)) (ksS rfl (ksS rfl (ksS rfl (ksS (congrArg (fun z => some (Value.int z)) (nI_pred _).symm) (ksS rfl (ks0 ksN)))))) | exact KV.loc (ih _ _ hG (E.si rfl) (kPi.push hP.2.2)) (ksS rfl (ksS rfl (ksS rfl (ksS (congrArg (fun z => some (Value.int z)) (nI_pred _).symm) (ksS rfl (ks0 ksN))))))
              · exact absurd h35 (by decide)
            · exact absurd (by decide) h34
        · exact absurd (by decide) h32
      · obtain ⟨y, z, t2, rfl⟩ := htwo (by rw [hc]; decide) (by rw [hc]; decide) (by rw [hc]; decide)
        have hy : v.2.1 387 (t2.length + 1) = y := hP.1
        have hz : v.2.1 387 t2.length = z := hP.2.1
        have hG : kGv (fun k => g (468 + 66 * t + 3 + k)) a b c d (i + 1) = kDone 20000 z y :: t2 := by rw [kGv, hL]; show kGs _ _ _ _ (g (468 + 66 * t + 3 + i)) _ = _; rw [hc]; rfl
        rw [hc, show kEnc 20000 = -1124 from by decide, show nI (y :: z :: t2).length - 1 = nI (t2.length + 1) from nI_pred _]
        refine kv_iload dX9_comesTo_23 rfl ?_
        refine kv_if_lt dX9_comesTo_25 47 (by decide) (fun h38 => ?_) (fun h38 => ?_)
        · refine kv_iload dX9_comesTo_47 rfl ?_
          refine kv_if_ge dX9_comesTo_49 92 (by decide) (fun h39 => ?_) (fun h39 => ?_)
          · exact absurd h39 (by decide)
          · refine kv_iload dX9_comesTo_52 rfl ?_
            refine kv_sipush dX9_comesTo_54 (-1000) kz_m1000 ?_
            refine kv_icmp_le dX9_comesTo_57 92 (by decide) (fun h40 => ?_) (fun h40 => ?_)
            · refine kv_iload dX9_comesTo_92 rfl ?_
              refine kv_sipush dX9_comesTo_94 (-1033) kz_m1033 ?_
              refine kv_icmp_ne dX9_comesTo_97 121 (by decide) (fun h41 => ?_) (fun h41 => ?_)
              · refine kv_iload dX9_comesTo_121 rfl ?_
                refine kv_sipush dX9_comesTo_123 (-1110) kz_m1110 ?_
                refine kv_icmp_ne dX9_comesTo_126 143 (by decide) (fun h42 => ?_) (fun h42 => ?_)
                · refine kv_iload dX9_comesTo_143 rfl ?_
                  refine kv_sipush dX9_comesTo_145 (-1000) kz_m1000 ?_
                  refine kv_icmp_ge dX9_comesTo_148 179 (by decide) (fun h43 => ?_) (fun h43 => ?_)
                  · exact absurd h43 (by decide)
                  · refine kv_iload_n dX9_comesTo_151 rfl ?_
                    refine kv_iconst dX9_comesTo_152 1 ki_1 ?_
                    refine kv_icmp_lt dX9_comesTo_153 179 (by decide) (fun h44 => ?_) (fun h44 => ?_)
                    · exact absurd h44 (nI_nlt (a := t2.length + 1) (b := 1) (by omega) (by simp at hl; omega))
                    · refine kv_iinc (ls2 := [_, _, _, _, _, _]) dX9_comesTo_156 (nI (t2.length)) rfl (pk_m1 t2.length) rfl rfl rfl rfl ?_
                      refine kv_aload_n dX9_comesTo_159 rfl ?_
                      refine kv_iload_n dX9_comesTo_160 rfl ?_
                      refine kv_sipush dX9_comesTo_161 (-1000) kz_m1000 ?_
                      refine kv_iload dX9_comesTo_164 rfl ?_
                      refine kv_isub dX9_comesTo_166 ?_
                      refine kv_aload_n dX9_comesTo_167 rfl ?_
                      refine kv_iload_n dX9_comesTo_168 rfl ?_
                      refine kw_il dX9_comesTo_169 hu2 (by first | rfl | assumption) (t2.length) rfl (by simp at hl; omega) rfl ?_
                      rw [hz]
                      refine kv_aload_n dX9_comesTo_170 rfl ?_
                      refine kv_iload_n dX9_comesTo_171 rfl ?_
                      refine kv_iconst dX9_comesTo_172 1 ki_1 ?_
                      refine kv_iadd dX9_comesTo_173 ?_
                      refine kw_il dX9_comesTo_174 hu2 (by first | rfl | assumption) (t2.length + 1) (nI_1 _) (by simp at hl; omega) rfl ?_
                      rw [hy]
                      rw [show (-1000 - (-1124) : Int32) = kSg 20000 from by decide]
                      refine kw_Si [_, _, _] mX9_join dX9_comesTo_175 lX9_31 wX9_join rfl rfl rfl (qX9_join hu2 20000 z y (by simp)) (by decide) ?_
                      refine kw_is dX9_comesTo_178 hu2 (by first | rfl | assumption) (t2.length) rfl (by simp at hl; omega) rfl ?_
                      refine kv_iinc (ls2 := [_, _, _, _, _, _]) dX9_comesTo_179 (nI (i + 1)) rfl (kv_inc1 i) rfl rfl rfl rfl ?_
                      refine kv_goto dX9_comesTo_182 5 (by decide) ?_
                      first | exact KV.loc (ih _ _ hG (E.si rfl) hP.push) (ksS rfl (ksS rfl (ksS rfl (ksS (congrArg (fun z => some (Value.int z)) (nI_pred _).symm) (ksS rfl (ks0 ksN)))))) | exact KV.loc (ih _ _ hG (E.si rfl) (kPi.push hP.2)) (ksS rfl (ksS rfl (ksS rfl (ksS (congrArg (fun z => some (Value.int z)) (nI_pred _).symm) (ksS rfl (ks0 ksN)))))) | exact KV.loc (ih _ _ hG (E.si rfl) (kPi.push hP.2.2)) (ksS rfl (ksS rfl (ksS rfl (ksS (congrArg (fun z => some (Value.int z)) (nI_pred _).symm) (ksS rfl (ks0 ksN))))))
                · exact absurd h42 (by decide)
              · exact absurd h41 (by decide)
            · exact absurd (by decide) h40
        · exact absurd (by decide) h38
      · obtain ⟨y, z, t2, rfl⟩ := htwo (by rw [hc]; decide) (by rw [hc]; decide) (by rw [hc]; decide)
        have hy : v.2.1 387 (t2.length + 1) = y := hP.1
        have hz : v.2.1 387 t2.length = z := hP.2.1
        have hG : kGv (fun k => g (468 + 66 * t + 3 + k)) a b c d (i + 1) = kDone 20001 z y :: t2 := by rw [kGv, hL]; show kGs _ _ _ _ (g (468 + 66 * t + 3 + i)) _ = _; rw [hc]; rfl
        rw [hc, show kEnc 20001 = -1038 from by decide, show nI (y :: z :: t2).length - 1 = nI (t2.length + 1) from nI_pred _]
        refine kv_iload dX9_comesTo_23 rfl ?_
        refine kv_if_lt dX9_comesTo_25 47 (by decide) (fun h45 => ?_) (fun h45 => ?_)
        · refine kv_iload dX9_comesTo_47 rfl ?_
          refine kv_if_ge dX9_comesTo_49 92 (by decide) (fun h46 => ?_) (fun h46 => ?_)
          · exact absurd h46 (by decide)
          · refine kv_iload dX9_comesTo_52 rfl ?_
            refine kv_sipush dX9_comesTo_54 (-1000) kz_m1000 ?_
            refine kv_icmp_le dX9_comesTo_57 92 (by decide) (fun h47 => ?_) (fun h47 => ?_)
            · refine kv_iload dX9_comesTo_92 rfl ?_
              refine kv_sipush dX9_comesTo_94 (-1033) kz_m1033 ?_
              refine kv_icmp_ne dX9_comesTo_97 121 (by decide) (fun h48 => ?_) (fun h48 => ?_)
              · refine kv_iload dX9_comesTo_121 rfl ?_
                refine kv_sipush dX9_comesTo_123 (-1110) kz_m1110 ?_
                refine kv_icmp_ne dX9_comesTo_126 143 (by decide) (fun h49 => ?_) (fun h49 => ?_)
                · refine kv_iload dX9_comesTo_143 rfl ?_
                  refine kv_sipush dX9_comesTo_145 (-1000) kz_m1000 ?_
                  refine kv_icmp_ge dX9_comesTo_148 179 (by decide) (fun h50 => ?_) (fun h50 => ?_)
                  · exact absurd h50 (by decide)
                  · refine kv_iload_n dX9_comesTo_151 rfl ?_
                    refine kv_iconst dX9_comesTo_152 1 ki_1 ?_
                    refine kv_icmp_lt dX9_comesTo_153 179 (by decide) (fun h51 => ?_) (fun h51 => ?_)
                    · exact absurd h51 (nI_nlt (a := t2.length + 1) (b := 1) (by omega) (by simp at hl; omega))
                    · refine kv_iinc (ls2 := [_, _, _, _, _, _]) dX9_comesTo_156 (nI (t2.length)) rfl (pk_m1 t2.length) rfl rfl rfl rfl ?_
                      refine kv_aload_n dX9_comesTo_159 rfl ?_
                      refine kv_iload_n dX9_comesTo_160 rfl ?_
                      refine kv_sipush dX9_comesTo_161 (-1000) kz_m1000 ?_
                      refine kv_iload dX9_comesTo_164 rfl ?_
                      refine kv_isub dX9_comesTo_166 ?_
                      refine kv_aload_n dX9_comesTo_167 rfl ?_
                      refine kv_iload_n dX9_comesTo_168 rfl ?_
                      refine kw_il dX9_comesTo_169 hu2 (by first | rfl | assumption) (t2.length) rfl (by simp at hl; omega) rfl ?_
                      rw [hz]
                      refine kv_aload_n dX9_comesTo_170 rfl ?_
                      refine kv_iload_n dX9_comesTo_171 rfl ?_
                      refine kv_iconst dX9_comesTo_172 1 ki_1 ?_
                      refine kv_iadd dX9_comesTo_173 ?_
                      refine kw_il dX9_comesTo_174 hu2 (by first | rfl | assumption) (t2.length + 1) (nI_1 _) (by simp at hl; omega) rfl ?_
                      rw [hy]
                      rw [show (-1000 - (-1038) : Int32) = kSg 20001 from by decide]
                      refine kw_Si [_, _, _] mX9_join dX9_comesTo_175 lX9_31 wX9_join rfl rfl rfl (qX9_join hu2 20001 z y (by simp)) (by decide) ?_
                      refine kw_is dX9_comesTo_178 hu2 (by first | rfl | assumption) (t2.length) rfl (by simp at hl; omega) rfl ?_
                      refine kv_iinc (ls2 := [_, _, _, _, _, _]) dX9_comesTo_179 (nI (i + 1)) rfl (kv_inc1 i) rfl rfl rfl rfl ?_
                      refine kv_goto dX9_comesTo_182 5 (by decide) ?_
                      first | exact KV.loc (ih _ _ hG (E.si rfl) hP.push) (ksS rfl (ksS rfl (ksS rfl (ksS (congrArg (fun z => some (Value.int z)) (nI_pred _).symm) (ksS rfl (ks0 ksN)))))) | exact KV.loc (ih _ _ hG (E.si rfl) (kPi.push hP.2)) (ksS rfl (ksS rfl (ksS rfl (ksS (congrArg (fun z => some (Value.int z)) (nI_pred _).symm) (ksS rfl (ks0 ksN)))))) | exact KV.loc (ih _ _ hG (E.si rfl) (kPi.push hP.2.2)) (ksS rfl (ksS rfl (ksS rfl (ksS (congrArg (fun z => some (Value.int z)) (nI_pred _).symm) (ksS rfl (ks0 ksN))))))
                · exact absurd h49 (by decide)
              · exact absurd h48 (by decide)
            · exact absurd (by decide) h47
        · exact absurd (by decide) h45
      · obtain ⟨y, z, t2, rfl⟩ := htwo (by rw [hc]; decide) (by rw [hc]; decide) (by rw [hc]; decide)
        have hy : v.2.1 387 (t2.length + 1) = y := hP.1
        have hz : v.2.1 387 t2.length = z := hP.2.1
        have hG : kGv (fun k => g (468 + 66 * t + 3 + k)) a b c d (i + 1) = kDone 20002 z y :: t2 := by rw [kGv, hL]; show kGs _ _ _ _ (g (468 + 66 * t + 3 + i)) _ = _; rw [hc]; rfl
        rw [hc, show kEnc 20002 = -1060 from by decide, show nI (y :: z :: t2).length - 1 = nI (t2.length + 1) from nI_pred _]
        refine kv_iload dX9_comesTo_23 rfl ?_
        refine kv_if_lt dX9_comesTo_25 47 (by decide) (fun h52 => ?_) (fun h52 => ?_)
        · refine kv_iload dX9_comesTo_47 rfl ?_
          refine kv_if_ge dX9_comesTo_49 92 (by decide) (fun h53 => ?_) (fun h53 => ?_)
          · exact absurd h53 (by decide)
          · refine kv_iload dX9_comesTo_52 rfl ?_
            refine kv_sipush dX9_comesTo_54 (-1000) kz_m1000 ?_
            refine kv_icmp_le dX9_comesTo_57 92 (by decide) (fun h54 => ?_) (fun h54 => ?_)
            · refine kv_iload dX9_comesTo_92 rfl ?_
              refine kv_sipush dX9_comesTo_94 (-1033) kz_m1033 ?_
              refine kv_icmp_ne dX9_comesTo_97 121 (by decide) (fun h55 => ?_) (fun h55 => ?_)
              · refine kv_iload dX9_comesTo_121 rfl ?_
                refine kv_sipush dX9_comesTo_123 (-1110) kz_m1110 ?_
                refine kv_icmp_ne dX9_comesTo_126 143 (by decide) (fun h56 => ?_) (fun h56 => ?_)
                · refine kv_iload dX9_comesTo_143 rfl ?_
                  refine kv_sipush dX9_comesTo_145 (-1000) kz_m1000 ?_
                  refine kv_icmp_ge dX9_comesTo_148 179 (by decide) (fun h57 => ?_) (fun h57 => ?_)
                  · exact absurd h57 (by decide)
                  · refine kv_iload_n dX9_comesTo_151 rfl ?_
                    refine kv_iconst dX9_comesTo_152 1 ki_1 ?_
                    refine kv_icmp_lt dX9_comesTo_153 179 (by decide) (fun h58 => ?_) (fun h58 => ?_)
                    · exact absurd h58 (nI_nlt (a := t2.length + 1) (b := 1) (by omega) (by simp at hl; omega))
                    · refine kv_iinc (ls2 := [_, _, _, _, _, _]) dX9_comesTo_156 (nI (t2.length)) rfl (pk_m1 t2.length) rfl rfl rfl rfl ?_
                      refine kv_aload_n dX9_comesTo_159 rfl ?_
                      refine kv_iload_n dX9_comesTo_160 rfl ?_
                      refine kv_sipush dX9_comesTo_161 (-1000) kz_m1000 ?_
                      refine kv_iload dX9_comesTo_164 rfl ?_
                      refine kv_isub dX9_comesTo_166 ?_
                      refine kv_aload_n dX9_comesTo_167 rfl ?_
                      refine kv_iload_n dX9_comesTo_168 rfl ?_
                      refine kw_il dX9_comesTo_169 hu2 (by first | rfl | assumption) (t2.length) rfl (by simp at hl; omega) rfl ?_
                      rw [hz]
                      refine kv_aload_n dX9_comesTo_170 rfl ?_
                      refine kv_iload_n dX9_comesTo_171 rfl ?_
                      refine kv_iconst dX9_comesTo_172 1 ki_1 ?_
                      refine kv_iadd dX9_comesTo_173 ?_
                      refine kw_il dX9_comesTo_174 hu2 (by first | rfl | assumption) (t2.length + 1) (nI_1 _) (by simp at hl; omega) rfl ?_
                      rw [hy]
                      rw [show (-1000 - (-1060) : Int32) = kSg 20002 from by decide]
                      refine kw_Si [_, _, _] mX9_join dX9_comesTo_175 lX9_31 wX9_join rfl rfl rfl (qX9_join hu2 20002 z y (by simp)) (by decide) ?_
                      refine kw_is dX9_comesTo_178 hu2 (by first | rfl | assumption) (t2.length) rfl (by simp at hl; omega) rfl ?_
                      refine kv_iinc (ls2 := [_, _, _, _, _, _]) dX9_comesTo_179 (nI (i + 1)) rfl (kv_inc1 i) rfl rfl rfl rfl ?_
                      refine kv_goto dX9_comesTo_182 5 (by decide) ?_
                      first | exact KV.loc (ih _ _ hG (E.si rfl) hP.push) (ksS rfl (ksS rfl (ksS rfl (ksS (congrArg (fun z => some (Value.int z)) (nI_pred _).symm) (ksS rfl (ks0 ksN)))))) | exact KV.loc (ih _ _ hG (E.si rfl) (kPi.push hP.2)) (ksS rfl (ksS rfl (ksS rfl (ksS (congrArg (fun z => some (Value.int z)) (nI_pred _).symm) (ksS rfl (ks0 ksN)))))) | exact KV.loc (ih _ _ hG (E.si rfl) (kPi.push hP.2.2)) (ksS rfl (ksS rfl (ksS rfl (ksS (congrArg (fun z => some (Value.int z)) (nI_pred _).symm) (ksS rfl (ks0 ksN))))))
                · exact absurd h56 (by decide)
              · exact absurd h55 (by decide)
            · exact absurd (by decide) h54
        · exact absurd (by decide) h52
      · obtain ⟨y, z, t2, rfl⟩ := htwo (by rw [hc]; decide) (by rw [hc]; decide) (by rw [hc]; decide)
        have hy : v.2.1 387 (t2.length + 1) = y := hP.1
        have hz : v.2.1 387 t2.length = z := hP.2.1
        have hG : kGv (fun k => g (468 + 66 * t + 3 + k)) a b c d (i + 1) = kDone 20003 z y :: t2 := by rw [kGv, hL]; show kGs _ _ _ _ (g (468 + 66 * t + 3 + i)) _ = _; rw [hc]; rfl
        rw [hc, show kEnc 20003 = -1061 from by decide, show nI (y :: z :: t2).length - 1 = nI (t2.length + 1) from nI_pred _]
        refine kv_iload dX9_comesTo_23 rfl ?_
        refine kv_if_lt dX9_comesTo_25 47 (by decide) (fun h59 => ?_) (fun h59 => ?_)
        · refine kv_iload dX9_comesTo_47 rfl ?_
          refine kv_if_ge dX9_comesTo_49 92 (by decide) (fun h60 => ?_) (fun h60 => ?_)
          · exact absurd h60 (by decide)
          · refine kv_iload dX9_comesTo_52 rfl ?_
            refine kv_sipush dX9_comesTo_54 (-1000) kz_m1000 ?_
            refine kv_icmp_le dX9_comesTo_57 92 (by decide) (fun h61 => ?_) (fun h61 => ?_)
            · refine kv_iload dX9_comesTo_92 rfl ?_
              refine kv_sipush dX9_comesTo_94 (-1033) kz_m1033 ?_
              refine kv_icmp_ne dX9_comesTo_97 121 (by decide) (fun h62 => ?_) (fun h62 => ?_)
              · refine kv_iload dX9_comesTo_121 rfl ?_
                refine kv_sipush dX9_comesTo_123 (-1110) kz_m1110 ?_
                refine kv_icmp_ne dX9_comesTo_126 143 (by decide) (fun h63 => ?_) (fun h63 => ?_)
                · refine kv_iload dX9_comesTo_143 rfl ?_
                  refine kv_sipush dX9_comesTo_145 (-1000) kz_m1000 ?_
                  refine kv_icmp_ge dX9_comesTo_148 179 (by decide) (fun h64 => ?_) (fun h64 => ?_)
                  · exact absurd h64 (by decide)
                  · refine kv_iload_n dX9_comesTo_151 rfl ?_
                    refine kv_iconst dX9_comesTo_152 1 ki_1 ?_
                    refine kv_icmp_lt dX9_comesTo_153 179 (by decide) (fun h65 => ?_) (fun h65 => ?_)
                    · exact absurd h65 (nI_nlt (a := t2.length + 1) (b := 1) (by omega) (by simp at hl; omega))
                    · refine kv_iinc (ls2 := [_, _, _, _, _, _]) dX9_comesTo_156 (nI (t2.length)) rfl (pk_m1 t2.length) rfl rfl rfl rfl ?_
                      refine kv_aload_n dX9_comesTo_159 rfl ?_
                      refine kv_iload_n dX9_comesTo_160 rfl ?_
                      refine kv_sipush dX9_comesTo_161 (-1000) kz_m1000 ?_
                      refine kv_iload dX9_comesTo_164 rfl ?_
                      refine kv_isub dX9_comesTo_166 ?_
                      refine kv_aload_n dX9_comesTo_167 rfl ?_
                      refine kv_iload_n dX9_comesTo_168 rfl ?_
                      refine kw_il dX9_comesTo_169 hu2 (by first | rfl | assumption) (t2.length) rfl (by simp at hl; omega) rfl ?_
                      rw [hz]
                      refine kv_aload_n dX9_comesTo_170 rfl ?_
                      refine kv_iload_n dX9_comesTo_171 rfl ?_
                      refine kv_iconst dX9_comesTo_172 1 ki_1 ?_
                      refine kv_iadd dX9_comesTo_173 ?_
                      refine kw_il dX9_comesTo_174 hu2 (by first | rfl | assumption) (t2.length + 1) (nI_1 _) (by simp at hl; omega) rfl ?_
                      rw [hy]
                      rw [show (-1000 - (-1061) : Int32) = kSg 20003 from by decide]
                      refine kw_Si [_, _, _] mX9_join dX9_comesTo_175 lX9_31 wX9_join rfl rfl rfl (qX9_join hu2 20003 z y (by simp)) (by decide) ?_
                      refine kw_is dX9_comesTo_178 hu2 (by first | rfl | assumption) (t2.length) rfl (by simp at hl; omega) rfl ?_
                      refine kv_iinc (ls2 := [_, _, _, _, _, _]) dX9_comesTo_179 (nI (i + 1)) rfl (kv_inc1 i) rfl rfl rfl rfl ?_
                      refine kv_goto dX9_comesTo_182 5 (by decide) ?_
                      first | exact KV.loc (ih _ _ hG (E.si rfl) hP.push) (ksS rfl (ksS rfl (ksS rfl (ksS (congrArg (fun z => some (Value.int z)) (nI_pred _).symm) (ksS rfl (ks0 ksN)))))) | exact KV.loc (ih _ _ hG (E.si rfl) (kPi.push hP.2)) (ksS rfl (ksS rfl (ksS rfl (ksS (congrArg (fun z => some (Value.int z)) (nI_pred _).symm) (ksS rfl (ks0 ksN)))))) | exact KV.loc (ih _ _ hG (E.si rfl) (kPi.push hP.2.2)) (ksS rfl (ksS rfl (ksS rfl (ksS (congrArg (fun z => some (Value.int z)) (nI_pred _).symm) (ksS rfl (ks0 ksN))))))
                · exact absurd h63 (by decide)
              · exact absurd h62 (by decide)
            · exact absurd (by decide) h61
        · exact absurd (by decide) h59
      · obtain ⟨y, z, t2, rfl⟩ := htwo (by rw [hc]; decide) (by rw [hc]; decide) (by rw [hc]; decide)
        have hy : v.2.1 387 (t2.length + 1) = y := hP.1
        have hz : v.2.1 387 t2.length = z := hP.2.1
        have hG : kGv (fun k => g (468 + 66 * t + 3 + k)) a b c d (i + 1) = kDone 20004 z y :: t2 := by rw [kGv, hL]; show kGs _ _ _ _ (g (468 + 66 * t + 3 + i)) _ = _; rw [hc]; rfl
        rw [hc, show kEnc 20004 = -1062 from by decide, show nI (y :: z :: t2).length - 1 = nI (t2.length + 1) from nI_pred _]
        refine kv_iload dX9_comesTo_23 rfl ?_
        refine kv_if_lt dX9_comesTo_25 47 (by decide) (fun h66 => ?_) (fun h66 => ?_)
        · refine kv_iload dX9_comesTo_47 rfl ?_
          refine kv_if_ge dX9_comesTo_49 92 (by decide) (fun h67 => ?_) (fun h67 => ?_)
          · exact absurd h67 (by decide)
          · refine kv_iload dX9_comesTo_52 rfl ?_
            refine kv_sipush dX9_comesTo_54 (-1000) kz_m1000 ?_
            refine kv_icmp_le dX9_comesTo_57 92 (by decide) (fun h68 => ?_) (fun h68 => ?_)
            · refine kv_iload dX9_comesTo_92 rfl ?_
              refine kv_sipush dX9_comesTo_94 (-1033) kz_m1033 ?_
              refine kv_icmp_ne dX9_comesTo_97 121 (by decide) (fun h69 => ?_) (fun h69 => ?_)
              · refine kv_iload dX9_comesTo_121 rfl ?_
                refine kv_sipush dX9_comesTo_123 (-1110) kz_m1110 ?_
                refine kv_icmp_ne dX9_comesTo_126 143 (by decide) (fun h70 => ?_) (fun h70 => ?_)
                · refine kv_iload dX9_comesTo_143 rfl ?_
                  refine kv_sipush dX9_comesTo_145 (-1000) kz_m1000 ?_
                  refine kv_icmp_ge dX9_comesTo_148 179 (by decide) (fun h71 => ?_) (fun h71 => ?_)
                  · exact absurd h71 (by decide)
                  · refine kv_iload_n dX9_comesTo_151 rfl ?_
                    refine kv_iconst dX9_comesTo_152 1 ki_1 ?_
                    refine kv_icmp_lt dX9_comesTo_153 179 (by decide) (fun h72 => ?_) (fun h72 => ?_)
                    · exact absurd h72 (nI_nlt (a := t2.length + 1) (b := 1) (by omega) (by simp at hl; omega))
                    · refine kv_iinc (ls2 := [_, _, _, _, _, _]) dX9_comesTo_156 (nI (t2.length)) rfl (pk_m1 t2.length) rfl rfl rfl rfl ?_
                      refine kv_aload_n dX9_comesTo_159 rfl ?_
                      refine kv_iload_n dX9_comesTo_160 rfl ?_
                      refine kv_sipush dX9_comesTo_161 (-1000) kz_m1000 ?_
                      refine kv_iload dX9_comesTo_164 rfl ?_
                      refine kv_isub dX9_comesTo_166 ?_
                      refine kv_aload_n dX9_comesTo_167 rfl ?_
                      refine kv_iload_n dX9_comesTo_168 rfl ?_
                      refine kw_il dX9_comesTo_169 hu2 (by first | rfl | assumption) (t2.length) rfl (by simp at hl; omega) rfl ?_
                      rw [hz]
                      refine kv_aload_n dX9_comesTo_170 rfl ?_
                      refine kv_iload_n dX9_comesTo_171 rfl ?_
                      refine kv_iconst dX9_comesTo_172 1 ki_1 ?_
                      refine kv_iadd dX9_comesTo_173 ?_
                      refine kw_il dX9_comesTo_174 hu2 (by first | rfl | assumption) (t2.length + 1) (nI_1 _) (by simp at hl; omega) rfl ?_
                      rw [hy]
                      rw [show (-1000 - (-1062) : Int32) = kSg 20004 from by decide]
                      refine kw_Si [_, _, _] mX9_join dX9_comesTo_175 lX9_31 wX9_join rfl rfl rfl (qX9_join hu2 20004 z y (by simp)) (by decide) ?_
                      refine kw_is dX9_comesTo_178 hu2 (by first | rfl | assumption) (t2.length) rfl (by simp at hl; omega) rfl ?_
                      refine kv_iinc (ls2 := [_, _, _, _, _, _]) dX9_comesTo_179 (nI (i + 1)) rfl (kv_inc1 i) rfl rfl rfl rfl ?_
                      refine kv_goto dX9_comesTo_182 5 (by decide) ?_
                      first | exact KV.loc (ih _ _ hG (E.si rfl) hP.push) (ksS rfl (ksS rfl (ksS rfl (ksS (congrArg (fun z => some (Value.int z)) (nI_pred _).symm) (ksS rfl (ks0 ksN)))))) | exact KV.loc (ih _ _ hG (E.si rfl) (kPi.push hP.2)) (ksS rfl (ksS rfl (ksS rfl (ksS (congrArg (fun z => some (Value.int z)) (nI_pred _).symm) (ksS rfl (ks0 ksN)))))) | exact KV.loc (ih _ _ hG (E.si rfl) (kPi.push hP.2.2)) (ksS rfl (ksS rfl (ksS rfl (ksS (congrArg (fun z => some (Value.int z)) (nI_pred _).symm) (ksS rfl (ks0 ksN))))))
                · exact absurd h70 (by decide)
              · exact absurd h69 (by decide)
            · exact absurd (by decide) h68
        · exact absurd (by decide) h66
      · obtain ⟨y, z, t2, rfl⟩ := htwo (by rw [hc]; decide) (by rw [hc]; decide) (by rw [hc]; decide)
        have hy : v.2.1 387 (t2.length + 1) = y := hP.1
        have hz : v.2.1 387 t2.length = z := hP.2.1
        have hG : kGv (fun k => g (468 + 66 * t + 3 + k)) a b c d (i + 1) = kDone 20005 z y :: t2 := by rw [kGv, hL]; show kGs _ _ _ _ (g (468 + 66 * t + 3 + i)) _ = _; rw [hc]; rfl
        rw [hc, show kEnc 20005 = -1043 from by decide, show nI (y :: z :: t2).length - 1 = nI (t2.length + 1) from nI_pred _]
        refine kv_iload dX9_comesTo_23 rfl ?_
        refine kv_if_lt dX9_comesTo_25 47 (by decide) (fun h73 => ?_) (fun h73 => ?_)
        · refine kv_iload dX9_comesTo_47 rfl ?_
          refine kv_if_ge dX9_comesTo_49 92 (by decide) (fun h74 => ?_) (fun h74 => ?_)
          · exact absurd h74 (by decide)
          · refine kv_iload dX9_comesTo_52 rfl ?_
            refine kv_sipush dX9_comesTo_54 (-1000) kz_m1000 ?_
            refine kv_icmp_le dX9_comesTo_57 92 (by decide) (fun h75 => ?_) (fun h75 => ?_)
            · refine kv_iload dX9_comesTo_92 rfl ?_
              refine kv_sipush dX9_comesTo_94 (-1033) kz_m1033 ?_
              refine kv_icmp_ne dX9_comesTo_97 121 (by decide) (fun h76 => ?_) (fun h76 => ?_)
              · refine kv_iload dX9_comesTo_121 rfl ?_
                refine kv_sipush dX9_comesTo_123 (-1110) kz_m1110 ?_
                refine kv_icmp_ne dX9_comesTo_126 143 (by decide) (fun h77 => ?_) (fun h77 => ?_)
                · refine kv_iload dX9_comesTo_143 rfl ?_
                  refine kv_sipush dX9_comesTo_145 (-1000) kz_m1000 ?_
                  refine kv_icmp_ge dX9_comesTo_148 179 (by decide) (fun h78 => ?_) (fun h78 => ?_)
                  · exact absurd h78 (by decide)
                  · refine kv_iload_n dX9_comesTo_151 rfl ?_
                    refine kv_iconst dX9_comesTo_152 1 ki_1 ?_
                    refine kv_icmp_lt dX9_comesTo_153 179 (by decide) (fun h79 => ?_) (fun h79 => ?_)
                    · exact absurd h79 (nI_nlt (a := t2.length + 1) (b := 1) (by omega) (by simp at hl; omega))
                    · refine kv_iinc (ls2 := [_, _, _, _, _, _]) dX9_comesTo_156 (nI (t2.length)) rfl (pk_m1 t2.length) rfl rfl rfl rfl ?_
                      refine kv_aload_n dX9_comesTo_159 rfl ?_
                      refine kv_iload_n dX9_comesTo_160 rfl ?_
                      refine kv_sipush dX9_comesTo_161 (-1000) kz_m1000 ?_
                      refine kv_iload dX9_comesTo_164 rfl ?_
                      refine kv_isub dX9_comesTo_166 ?_
                      refine kv_aload_n dX9_comesTo_167 rfl ?_
                      refine kv_iload_n dX9_comesTo_168 rfl ?_
                      refine kw_il dX9_comesTo_169 hu2 (by first | rfl | assumption) (t2.length) rfl (by simp at hl; omega) rfl ?_
                      rw [hz]
                      refine kv_aload_n dX9_comesTo_170 rfl ?_
                      refine kv_iload_n dX9_comesTo_171 rfl ?_
                      refine kv_iconst dX9_comesTo_172 1 ki_1 ?_
                      refine kv_iadd dX9_comesTo_173 ?_
                      refine kw_il dX9_comesTo_174 hu2 (by first | rfl | assumption) (t2.length + 1) (nI_1 _) (by simp at hl; omega) rfl ?_
                      rw [hy]
                      rw [show (-1000 - (-1043) : Int32) = kSg 20005 from by decide]
                      refine kw_Si [_, _, _] mX9_join dX9_comesTo_175 lX9_31 wX9_join rfl rfl rfl (qX9_join hu2 20005 z y (by simp)) (by decide) ?_
                      refine kw_is dX9_comesTo_178 hu2 (by first | rfl | assumption) (t2.length) rfl (by simp at hl; omega) rfl ?_
                      refine kv_iinc (ls2 := [_, _, _, _, _, _]) dX9_comesTo_179 (nI (i + 1)) rfl (kv_inc1 i) rfl rfl rfl rfl ?_
                      refine kv_goto dX9_comesTo_182 5 (by decide) ?_
                      first | exact KV.loc (ih _ _ hG (E.si rfl) hP.push) (ksS rfl (ksS rfl (ksS rfl (ksS (congrArg (fun z => some (Value.int z)) (nI_pred _).symm) (ksS rfl (ks0 ksN)))))) | exact KV.loc (ih _ _ hG (E.si rfl) (kPi.push hP.2)) (ksS rfl (ksS rfl (ksS rfl (ksS (congrArg (fun z => some (Value.int z)) (nI_pred _).symm) (ksS rfl (ks0 ksN)))))) | exact KV.loc (ih _ _ hG (E.si rfl) (kPi.push hP.2.2)) (ksS rfl (ksS rfl (ksS rfl (ksS (congrArg (fun z => some (Value.int z)) (nI_pred _).symm) (ksS rfl (ks0 ksN))))))
                · exact absurd h77 (by decide)
              · exact absurd h76 (by decide)
            · exact absurd (by decide) h75
        · exact absurd (by decide) h73
      · obtain ⟨y, z, t2, rfl⟩ := htwo (by rw [hc]; decide) (by rw [hc]; decide) (by rw [hc]; decide)
        have hy : v.2.1 387 (t2.length + 1) = y := hP.1
        have hz : v.2.1 387 t2.length = z := hP.2.1
        have hG : kGv (fun k => g (468 + 66 * t + 3 + k)) a b c d (i + 1) = kDone 20006 z y :: t2 := by rw [kGv, hL]; show kGs _ _ _ _ (g (468 + 66 * t + 3 + i)) _ = _; rw [hc]; rfl
        rw [hc, show kEnc 20006 = -1045 from by decide, show nI (y :: z :: t2).length - 1 = nI (t2.length + 1) from nI_pred _]
        refine kv_iload dX9_comesTo_23 rfl ?_
        refine kv_if_lt dX9_comesTo_25 47 (by decide) (fun h80 => ?_) (fun h80 => ?_)
        · refine kv_iload dX9_comesTo_47 rfl ?_
          refine kv_if_ge dX9_comesTo_49 92 (by decide) (fun h81 => ?_) (fun h81 => ?_)
          · exact absurd h81 (by decide)
          · refine kv_iload dX9_comesTo_52 rfl ?_
            refine kv_sipush dX9_comesTo_54 (-1000) kz_m1000 ?_
            refine kv_icmp_le dX9_comesTo_57 92 (by decide) (fun h82 => ?_) (fun h82 => ?_)
            · refine kv_iload dX9_comesTo_92 rfl ?_
              refine kv_sipush dX9_comesTo_94 (-1033) kz_m1033 ?_
              refine kv_icmp_ne dX9_comesTo_97 121 (by decide) (fun h83 => ?_) (fun h83 => ?_)
              · refine kv_iload dX9_comesTo_121 rfl ?_
                refine kv_sipush dX9_comesTo_123 (-1110) kz_m1110 ?_
                refine kv_icmp_ne dX9_comesTo_126 143 (by decide) (fun h84 => ?_) (fun h84 => ?_)
                · refine kv_iload dX9_comesTo_143 rfl ?_
                  refine kv_sipush dX9_comesTo_145 (-1000) kz_m1000 ?_
                  refine kv_icmp_ge dX9_comesTo_148 179 (by decide) (fun h85 => ?_) (fun h85 => ?_)
                  · exact absurd h85 (by decide)
                  · refine kv_iload_n dX9_comesTo_151 rfl ?_
                    refine kv_iconst dX9_comesTo_152 1 ki_1 ?_
                    refine kv_icmp_lt dX9_comesTo_153 179 (by decide) (fun h86 => ?_) (fun h86 => ?_)
                    · exact absurd h86 (nI_nlt (a := t2.length + 1) (b := 1) (by omega) (by simp at hl; omega))
                    · refine kv_iinc (ls2 := [_, _, _, _, _, _]) dX9_comesTo_156 (nI (t2.length)) rfl (pk_m1 t2.length) rfl rfl rfl rfl ?_
                      refine kv_aload_n dX9_comesTo_159 rfl ?_
                      refine kv_iload_n dX9_comesTo_160 rfl ?_
                      refine kv_sipush dX9_comesTo_161 (-1000) kz_m1000 ?_
                      refine kv_iload dX9_comesTo_164 rfl ?_
                      refine kv_isub dX9_comesTo_166 ?_
                      refine kv_aload_n dX9_comesTo_167 rfl ?_
                      refine kv_iload_n dX9_comesTo_168 rfl ?_
                      refine kw_il dX9_comesTo_169 hu2 (by first | rfl | assumption) (t2.length) rfl (by simp at hl; omega) rfl ?_
                      rw [hz]
                      refine kv_aload_n dX9_comesTo_170 rfl ?_
                      refine kv_iload_n dX9_comesTo_171 rfl ?_
                      refine kv_iconst dX9_comesTo_172 1 ki_1 ?_
                      refine kv_iadd dX9_comesTo_173 ?_
                      refine kw_il dX9_comesTo_174 hu2 (by first | rfl | assumption) (t2.length + 1) (nI_1 _) (by simp at hl; omega) rfl ?_
                      rw [hy]
                      rw [show (-1000 - (-1045) : Int32) = kSg 20006 from by decide]
                      refine kw_Si [_, _, _] mX9_join dX9_comesTo_175 lX9_31 wX9_join rfl rfl rfl (qX9_join hu2 20006 z y (by simp)) (by decide) ?_
                      refine kw_is dX9_comesTo_178 hu2 (by first | rfl | assumption) (t2.length) rfl (by simp at hl; omega) rfl ?_
                      refine kv_iinc (ls2 := [_, _, _, _, _, _]) dX9_comesTo_179 (nI (i + 1)) rfl (kv_inc1 i) rfl rfl rfl rfl ?_
                      refine kv_goto dX9_comesTo_182 5 (by decide) ?_
                      first | exact KV.loc (ih _ _ hG (E.si rfl) hP.push) (ksS rfl (ksS rfl (ksS rfl (ksS (congrArg (fun z => some (Value.int z)) (nI_pred _).symm) (ksS rfl (ks0 ksN)))))) | exact KV.loc (ih _ _ hG (E.si rfl) (kPi.push hP.2)) (ksS rfl (ksS rfl (ksS rfl (ksS (congrArg (fun z => some (Value.int z)) (nI_pred _).symm) (ksS rfl (ks0 ksN)))))) | exact KV.loc (ih _ _ hG (E.si rfl) (kPi.push hP.2.2)) (ksS rfl (ksS rfl (ksS rfl (ksS (congrArg (fun z => some (Value.int z)) (nI_pred _).symm) (ksS rfl (ks0 ksN))))))
                · exact absurd h84 (by decide)
              · exact absurd h83 (by decide)
            · exact absurd (by decide) h82
        · exact absurd (by decide) h80
      · obtain ⟨y, z, t2, rfl⟩ := htwo (by rw [hc]; decide) (by rw [hc]; decide) (by rw [hc]; decide)
        have hy : v.2.1 387 (t2.length + 1) = y := hP.1
        have hz : v.2.1 387 t2.length = z := hP.2.1
        have hG : kGv (fun k => g (468 + 66 * t + 3 + k)) a b c d (i + 1) = kDone 20007 z y :: t2 := by rw [kGv, hL]; show kGs _ _ _ _ (g (468 + 66 * t + 3 + i)) _ = _; rw [hc]; rfl
        rw [hc, show kEnc 20007 = -1042 from by decide, show nI (y :: z :: t2).length - 1 = nI (t2.length + 1) from nI_pred _]
        refine kv_iload dX9_comesTo_23 rfl ?_
        refine kv_if_lt dX9_comesTo_25 47 (by decide) (fun h87 => ?_) (fun h87 => ?_)
        · refine kv_iload dX9_comesTo_47 rfl ?_
          refine kv_if_ge dX9_comesTo_49 92 (by decide) (fun h88 => ?_) (fun h88 => ?_)
          · exact absurd h88 (by decide)
          · refine kv_iload dX9_comesTo_52 rfl ?_
            refine kv_sipush dX9_comesTo_54 (-1000) kz_m1000 ?_
            refine kv_icmp_le dX9_comesTo_57 92 (by decide) (fun h89 => ?_) (fun h89 => ?_)
            · refine kv_iload dX9_comesTo_92 rfl ?_
              refine kv_sipush dX9_comesTo_94 (-1033) kz_m1033 ?_
              refine kv_icmp_ne dX9_comesTo_97 121 (by decide) (fun h90 => ?_) (fun h90 => ?_)
              · refine kv_iload dX9_comesTo_121 rfl ?_
                refine kv_sipush dX9_comesTo_123 (-1110) kz_m1110 ?_
                refine kv_icmp_ne dX9_comesTo_126 143 (by decide) (fun h91 => ?_) (fun h91 => ?_)
                · refine kv_iload dX9_comesTo_143 rfl ?_
                  refine kv_sipush dX9_comesTo_145 (-1000) kz_m1000 ?_
                  refine kv_icmp_ge dX9_comesTo_148 179 (by decide) (fun h92 => ?_) (fun h92 => ?_)
                  · exact absurd h92 (by decide)
                  · refine kv_iload_n dX9_comesTo_151 rfl ?_
                    refine kv_iconst dX9_comesTo_152 1 ki_1 ?_
                    refine kv_icmp_lt dX9_comesTo_153 179 (by decide) (fun h93 => ?_) (fun h93 => ?_)
                    · exact absurd h93 (nI_nlt (a := t2.length + 1) (b := 1) (by omega) (by simp at hl; omega))
                    · refine kv_iinc (ls2 := [_, _, _, _, _, _]) dX9_comesTo_156 (nI (t2.length)) rfl (pk_m1 t2.length) rfl rfl rfl rfl ?_
                      refine kv_aload_n dX9_comesTo_159 rfl ?_
                      refine kv_iload_n dX9_comesTo_160 rfl ?_
                      refine kv_sipush dX9_comesTo_161 (-1000) kz_m1000 ?_
                      refine kv_iload dX9_comesTo_164 rfl ?_
                      refine kv_isub dX9_comesTo_166 ?_
                      refine kv_aload_n dX9_comesTo_167 rfl ?_
                      refine kv_iload_n dX9_comesTo_168 rfl ?_
                      refine kw_il dX9_comesTo_169 hu2 (by first | rfl | assumption) (t2.length) rfl (by simp at hl; omega) rfl ?_
                      rw [hz]
                      refine kv_aload_n dX9_comesTo_170 rfl ?_
                      refine kv_iload_n dX9_comesTo_171 rfl ?_
                      refine kv_iconst dX9_comesTo_172 1 ki_1 ?_
                      refine kv_iadd dX9_comesTo_173 ?_
                      refine kw_il dX9_comesTo_174 hu2 (by first | rfl | assumption) (t2.length + 1) (nI_1 _) (by simp at hl; omega) rfl ?_
                      rw [hy]
                      rw [show (-1000 - (-1042) : Int32) = kSg 20007 from by decide]
                      refine kw_Si [_, _, _] mX9_join dX9_comesTo_175 lX9_31 wX9_join rfl rfl rfl (qX9_join hu2 20007 z y (by simp)) (by decide) ?_
                      refine kw_is dX9_comesTo_178 hu2 (by first | rfl | assumption) (t2.length) rfl (by simp at hl; omega) rfl ?_
                      refine kv_iinc (ls2 := [_, _, _, _, _, _]) dX9_comesTo_179 (nI (i + 1)) rfl (kv_inc1 i) rfl rfl rfl rfl ?_
                      refine kv_goto dX9_comesTo_182 5 (by decide) ?_
                      first | exact KV.loc (ih _ _ hG (E.si rfl) hP.push) (ksS rfl (ksS rfl (ksS rfl (ksS (congrArg (fun z => some (Value.int z)) (nI_pred _).symm) (ksS rfl (ks0 ksN)))))) | exact KV.loc (ih _ _ hG (E.si rfl) (kPi.push hP.2)) (ksS rfl (ksS rfl (ksS rfl (ksS (congrArg (fun z => some (Value.int z)) (nI_pred _).symm) (ksS rfl (ks0 ksN)))))) | exact KV.loc (ih _ _ hG (E.si rfl) (kPi.push hP.2.2)) (ksS rfl (ksS rfl (ksS rfl (ksS (congrArg (fun z => some (Value.int z)) (nI_pred _).symm) (ksS rfl (ks0 ksN))))))
                · exact absurd h91 (by decide)
              · exact absurd h90 (by decide)
            · exact absurd (by decide) h89
        · exact absurd (by decide) h87
      · obtain ⟨y, z, t2, rfl⟩ := htwo (by rw [hc]; decide) (by rw [hc]; decide) (by rw [hc]; decide)
        have hy : v.2.1 387 (t2.length + 1) = y := hP.1
        have hz : v.2.1 387 t2.length = z := hP.2.1
        have hG : kGv (fun k => g (468 + 66 * t + 3 + k)) a b c d (i + 1) = kDone 20008 z y :: t2 := by rw [kGv, hL]; show kGs _ _ _ _ (g (468 + 66 * t + 3 + i)) _ = _; rw [hc]; rfl
        rw [hc, show kEnc 20008 = -1047 from by decide, show nI (y :: z :: t2).length - 1 = nI (t2.length + 1) from nI_pred _]
        refine kv_iload dX9_comesTo_23 rfl ?_
        refine kv_if_lt dX9_comesTo_25 47 (by decide) (fun h94 => ?_) (fun h94 => ?_)
        · refine kv_iload dX9_comesTo_47 rfl ?_
          refine kv_if_ge dX9_comesTo_49 92 (by decide) (fun h95 => ?_) (fun h95 => ?_)
          · exact absurd h95 (by decide)
          · refine kv_iload dX9_comesTo_52 rfl ?_
            refine kv_sipush dX9_comesTo_54 (-1000) kz_m1000 ?_
            refine kv_icmp_le dX9_comesTo_57 92 (by decide) (fun h96 => ?_) (fun h96 => ?_)
            · refine kv_iload dX9_comesTo_92 rfl ?_
              refine kv_sipush dX9_comesTo_94 (-1033) kz_m1033 ?_
              refine kv_icmp_ne dX9_comesTo_97 121 (by decide) (fun h97 => ?_) (fun h97 => ?_)
              · refine kv_iload dX9_comesTo_121 rfl ?_
                refine kv_sipush dX9_comesTo_123 (-1110) kz_m1110 ?_
                refine kv_icmp_ne dX9_comesTo_126 143 (by decide) (fun h98 => ?_) (fun h98 => ?_)
                · refine kv_iload dX9_comesTo_143 rfl ?_
                  refine kv_sipush dX9_comesTo_145 (-1000) kz_m1000 ?_
                  refine kv_icmp_ge dX9_comesTo_148 179 (by decide) (fun h99 => ?_) (fun h99 => ?_)
                  · exact absurd h99 (by decide)
                  · refine kv_iload_n dX9_comesTo_151 rfl ?_
                    refine kv_iconst dX9_comesTo_152 1 ki_1 ?_
                    refine kv_icmp_lt dX9_comesTo_153 179 (by decide) (fun h100 => ?_) (fun h100 => ?_)
                    · exact absurd h100 (nI_nlt (a := t2.length + 1) (b := 1) (by omega) (by simp at hl; omega))
                    · refine kv_iinc (ls2 := [_, _, _, _, _, _]) dX9_comesTo_156 (nI (t2.length)) rfl (pk_m1 t2.length) rfl rfl rfl rfl ?_
                      refine kv_aload_n dX9_comesTo_159 rfl ?_
                      refine kv_iload_n dX9_comesTo_160 rfl ?_
                      refine kv_sipush dX9_comesTo_161 (-1000) kz_m1000 ?_
                      refine kv_iload dX9_comesTo_164 rfl ?_
                      refine kv_isub dX9_comesTo_166 ?_
                      refine kv_aload_n dX9_comesTo_167 rfl ?_
                      refine kv_iload_n dX9_comesTo_168 rfl ?_
                      refine kw_il dX9_comesTo_169 hu2 (by first | rfl | assumption) (t2.length) rfl (by simp at hl; omega) rfl ?_
                      rw [hz]
                      refine kv_aload_n dX9_comesTo_170 rfl ?_
                      refine kv_iload_n dX9_comesTo_171 rfl ?_
                      refine kv_iconst dX9_comesTo_172 1 ki_1 ?_
                      refine kv_iadd dX9_comesTo_173 ?_
                      refine kw_il dX9_comesTo_174 hu2 (by first | rfl | assumption) (t2.length + 1) (nI_1 _) (by simp at hl; omega) rfl ?_
                      rw [hy]
                      rw [show (-1000 - (-1047) : Int32) = kSg 20008 from by decide]
                      refine kw_Si [_, _, _] mX9_join dX9_comesTo_175 lX9_31 wX9_join rfl rfl rfl (qX9_join hu2 20008 z y (by simp)) (by decide) ?_
                      refine kw_is dX9_comesTo_178 hu2 (by first | rfl | assumption) (t2.length) rfl (by simp at hl; omega) rfl ?_
                      refine kv_iinc (ls2 := [_, _, _, _, _, _]) dX9_comesTo_179 (nI (i + 1)) rfl (kv_inc1 i) rfl rfl rfl rfl ?_
                      refine kv_goto dX9_comesTo_182 5 (by decide) ?_
                      first | exact KV.loc (ih _ _ hG (E.si rfl) hP.push) (ksS rfl (ksS rfl (ksS rfl (ksS (congrArg (fun z => some (Value.int z)) (nI_pred _).symm) (ksS rfl (ks0 ksN)))))) | exact KV.loc (ih _ _ hG (E.si rfl) (kPi.push hP.2)) (ksS rfl (ksS rfl (ksS rfl (ksS (congrArg (fun z => some (Value.int z)) (nI_pred _).symm) (ksS rfl (ks0 ksN)))))) | exact KV.loc (ih _ _ hG (E.si rfl) (kPi.push hP.2.2)) (ksS rfl (ksS rfl (ksS rfl (ksS (congrArg (fun z => some (Value.int z)) (nI_pred _).symm) (ksS rfl (ks0 ksN))))))
                · exact absurd h98 (by decide)
              · exact absurd h97 (by decide)
            · exact absurd (by decide) h96
        · exact absurd (by decide) h94
      · obtain ⟨y, z, t2, rfl⟩ := htwo (by rw [hc]; decide) (by rw [hc]; decide) (by rw [hc]; decide)
        have hy : v.2.1 387 (t2.length + 1) = y := hP.1
        have hz : v.2.1 387 t2.length = z := hP.2.1
        have hG : kGv (fun k => g (468 + 66 * t + 3 + k)) a b c d (i + 1) = kDone 20009 z y :: t2 := by rw [kGv, hL]; show kGs _ _ _ _ (g (468 + 66 * t + 3 + i)) _ = _; rw [hc]; rfl
        rw [hc, show kEnc 20009 = -1103 from by decide, show nI (y :: z :: t2).length - 1 = nI (t2.length + 1) from nI_pred _]
        refine kv_iload dX9_comesTo_23 rfl ?_
        refine kv_if_lt dX9_comesTo_25 47 (by decide) (fun h101 => ?_) (fun h101 => ?_)
        · refine kv_iload dX9_comesTo_47 rfl ?_
          refine kv_if_ge dX9_comesTo_49 92 (by decide) (fun h102 => ?_) (fun h102 => ?_)
          · exact absurd h102 (by decide)
          · refine kv_iload dX9_comesTo_52 rfl ?_
            refine kv_sipush dX9_comesTo_54 (-1000) kz_m1000 ?_
            refine kv_icmp_le dX9_comesTo_57 92 (by decide) (fun h103 => ?_) (fun h103 => ?_)
            · refine kv_iload dX9_comesTo_92 rfl ?_
              refine kv_sipush dX9_comesTo_94 (-1033) kz_m1033 ?_
              refine kv_icmp_ne dX9_comesTo_97 121 (by decide) (fun h104 => ?_) (fun h104 => ?_)
              · refine kv_iload dX9_comesTo_121 rfl ?_
                refine kv_sipush dX9_comesTo_123 (-1110) kz_m1110 ?_
                refine kv_icmp_ne dX9_comesTo_126 143 (by decide) (fun h105 => ?_) (fun h105 => ?_)
                · refine kv_iload dX9_comesTo_143 rfl ?_
                  refine kv_sipush dX9_comesTo_145 (-1000) kz_m1000 ?_
                  refine kv_icmp_ge dX9_comesTo_148 179 (by decide) (fun h106 => ?_) (fun h106 => ?_)
                  · exact absurd h106 (by decide)
                  · refine kv_iload_n dX9_comesTo_151 rfl ?_
                    refine kv_iconst dX9_comesTo_152 1 ki_1 ?_
                    refine kv_icmp_lt dX9_comesTo_153 179 (by decide) (fun h107 => ?_) (fun h107 => ?_)
                    · exact absurd h107 (nI_nlt (a := t2.length + 1) (b := 1) (by omega) (by simp at hl; omega))
                    · refine kv_iinc (ls2 := [_, _, _, _, _, _]) dX9_comesTo_156 (nI (t2.length)) rfl (pk_m1 t2.length) rfl rfl rfl rfl ?_
                      refine kv_aload_n dX9_comesTo_159 rfl ?_
                      refine kv_iload_n dX9_comesTo_160 rfl ?_
                      refine kv_sipush dX9_comesTo_161 (-1000) kz_m1000 ?_
                      refine kv_iload dX9_comesTo_164 rfl ?_
                      refine kv_isub dX9_comesTo_166 ?_
                      refine kv_aload_n dX9_comesTo_167 rfl ?_
                      refine kv_iload_n dX9_comesTo_168 rfl ?_
                      refine kw_il dX9_comesTo_169 hu2 (by first | rfl | assumption) (t2.length) rfl (by simp at hl; omega) rfl ?_
                      rw [hz]
                      refine kv_aload_n dX9_comesTo_170 rfl ?_
                      refine kv_iload_n dX9_comesTo_171 rfl ?_
                      refine kv_iconst dX9_comesTo_172 1 ki_1 ?_
                      refine kv_iadd dX9_comesTo_173 ?_
                      refine kw_il dX9_comesTo_174 hu2 (by first | rfl | assumption) (t2.length + 1) (nI_1 _) (by simp at hl; omega) rfl ?_
                      rw [hy]
                      rw [show (-1000 - (-1103) : Int32) = kSg 20009 from by decide]
                      refine kw_Si [_, _, _] mX9_join dX9_comesTo_175 lX9_31 wX9_join rfl rfl rfl (qX9_join hu2 20009 z y (by simp)) (by decide) ?_
                      refine kw_is dX9_comesTo_178 hu2 (by first | rfl | assumption) (t2.length) rfl (by simp at hl; omega) rfl ?_
                      refine kv_iinc (ls2 := [_, _, _, _, _, _]) dX9_comesTo_179 (nI (i + 1)) rfl (kv_inc1 i) rfl rfl rfl rfl ?_
                      refine kv_goto dX9_comesTo_182 5 (by decide) ?_
                      first | exact KV.loc (ih _ _ hG (E.si rfl) hP.push) (ksS rfl (ksS rfl (ksS rfl (ksS (congrArg (fun z => some (Value.int z)) (nI_pred _).symm) (ksS rfl (ks0 ksN)))))) | exact KV.loc (ih _ _ hG (E.si rfl) (kPi.push hP.2)) (ksS rfl (ksS rfl (ksS rfl (ksS (congrArg (fun z => some (Value.int z)) (nI_pred _).symm) (ksS rfl (ks0 ksN)))))) | exact KV.loc (ih _ _ hG (E.si rfl) (kPi.push hP.2.2)) (ksS rfl (ksS rfl (ksS rfl (ksS (congrArg (fun z => some (Value.int z)) (nI_pred _).symm) (ksS rfl (ks0 ksN))))))
                · exact absurd h105 (by decide)
              · exact absurd h104 (by decide)
            · exact absurd (by decide) h103
        · exact absurd (by decide) h101
      · obtain ⟨y, z, t2, rfl⟩ := htwo (by rw [hc]; decide) (by rw [hc]; decide) (by rw [hc]; decide)
        have hy : v.2.1 387 (t2.length + 1) = y := hP.1
        have hz : v.2.1 387 t2.length = z := hP.2.1
        have hG : kGv (fun k => g (468 + 66 * t + 3 + k)) a b c d (i + 1) = kDone 20010 z y :: t2 := by rw [kGv, hL]; show kGs _ _ _ _ (g (468 + 66 * t + 3 + i)) _ = _; rw [hc]; rfl
        rw [hc, show kEnc 20010 = -1108 from by decide, show nI (y :: z :: t2).length - 1 = nI (t2.length + 1) from nI_pred _]
        refine kv_iload dX9_comesTo_23 rfl ?_
        refine kv_if_lt dX9_comesTo_25 47 (by decide) (fun h108 => ?_) (fun h108 => ?_)
        · refine kv_iload dX9_comesTo_47 rfl ?_
          refine kv_if_ge dX9_comesTo_49 92 (by decide) (fun h109 => ?_) (fun h109 => ?_)
          · exact absurd h109 (by decide)
          · refine kv_iload dX9_comesTo_52 rfl ?_
            refine kv_sipush dX9_comesTo_54 (-1000) kz_m1000 ?_
            refine kv_icmp_le dX9_comesTo_57 92 (by decide) (fun h110 => ?_) (fun h110 => ?_)
            · refine kv_iload dX9_comesTo_92 rfl ?_
              refine kv_sipush dX9_comesTo_94 (-1033) kz_m1033 ?_
              refine kv_icmp_ne dX9_comesTo_97 121 (by decide) (fun h111 => ?_) (fun h111 => ?_)
              · refine kv_iload dX9_comesTo_121 rfl ?_
                refine kv_sipush dX9_comesTo_123 (-1110) kz_m1110 ?_
                refine kv_icmp_ne dX9_comesTo_126 143 (by decide) (fun h112 => ?_) (fun h112 => ?_)
                · refine kv_iload dX9_comesTo_143 rfl ?_
                  refine kv_sipush dX9_comesTo_145 (-1000) kz_m1000 ?_
                  refine kv_icmp_ge dX9_comesTo_148 179 (by decide) (fun h113 => ?_) (fun h113 => ?_)
                  · exact absurd h113 (by decide)
                  · refine kv_iload_n dX9_comesTo_151 rfl ?_
                    refine kv_iconst dX9_comesTo_152 1 ki_1 ?_
                    refine kv_icmp_lt dX9_comesTo_153 179 (by decide) (fun h114 => ?_) (fun h114 => ?_)
                    · exact absurd h114 (nI_nlt (a := t2.length + 1) (b := 1) (by omega) (by simp at hl; omega))
                    · refine kv_iinc (ls2 := [_, _, _, _, _, _]) dX9_comesTo_156 (nI (t2.length)) rfl (pk_m1 t2.length) rfl rfl rfl rfl ?_
                      refine kv_aload_n dX9_comesTo_159 rfl ?_
                      refine kv_iload_n dX9_comesTo_160 rfl ?_
                      refine kv_sipush dX9_comesTo_161 (-1000) kz_m1000 ?_
                      refine kv_iload dX9_comesTo_164 rfl ?_
                      refine kv_isub dX9_comesTo_166 ?_
                      refine kv_aload_n dX9_comesTo_167 rfl ?_
                      refine kv_iload_n dX9_comesTo_168 rfl ?_
                      refine kw_il dX9_comesTo_169 hu2 (by first | rfl | assumption) (t2.length) rfl (by simp at hl; omega) rfl ?_
                      rw [hz]
                      refine kv_aload_n dX9_comesTo_170 rfl ?_
                      refine kv_iload_n dX9_comesTo_171 rfl ?_
                      refine kv_iconst dX9_comesTo_172 1 ki_1 ?_
                      refine kv_iadd dX9_comesTo_173 ?_
                      refine kw_il dX9_comesTo_174 hu2 (by first | rfl | assumption) (t2.length + 1) (nI_1 _) (by simp at hl; omega) rfl ?_
                      rw [hy]
                      rw [show (-1000 - (-1108) : Int32) = kSg 20010 from by decide]
                      refine kw_Si [_, _, _] mX9_join dX9_comesTo_175 lX9_31 wX9_join rfl rfl rfl (qX9_join hu2 20010 z y (by simp)) (by decide) ?_
                      refine kw_is dX9_comesTo_178 hu2 (by first | rfl | assumption) (t2.length) rfl (by simp at hl; omega) rfl ?_
                      refine kv_iinc (ls2 := [_, _, _, _, _, _]) dX9_comesTo_179 (nI (i + 1)) rfl (kv_inc1 i) rfl rfl rfl rfl ?_
                      refine kv_goto dX9_comesTo_182 5 (by decide) ?_
                      first | exact KV.loc (ih _ _ hG (E.si rfl) hP.push) (ksS rfl (ksS rfl (ksS rfl (ksS (congrArg (fun z => some (Value.int z)) (nI_pred _).symm) (ksS rfl (ks0 ksN)))))) | exact KV.loc (ih _ _ hG (E.si rfl) (kPi.push hP.2)) (ksS rfl (ksS rfl (ksS rfl (ksS (congrArg (fun z => some (Value.int z)) (nI_pred _).symm) (ksS rfl (ks0 ksN)))))) | exact KV.loc (ih _ _ hG (E.si rfl) (kPi.push hP.2.2)) (ksS rfl (ksS rfl (ksS rfl (ksS (congrArg (fun z => some (Value.int z)) (nI_pred _).symm) (ksS rfl (ks0 ksN))))))
                · exact absurd h112 (by decide)
              · exact absurd h111 (by decide)
            · exact absurd (by decide) h110
        · exact absurd (by decide) h108

