/-! THE MODEL'S READER: plain -/
def kpNv (bs : List Int32) (x : Int32) : Nat → Int32
  | 0 => -1
  | k + 1 => if x = bs.getD k 0 then 10000 + nI k else kpNv bs x k
theorem kpNv_m {use : Nat} (hu : use < 3) (x : Int32) : kpNv (kv_sb.getD use []) x (kv_sl.getD use 0) = kpNm use x := by
  rcases (show use = 0 ∨ use = 1 ∨ use = 2 by omega) with rfl | rfl | rfl
  · show (if x = 118 then (10003 : Int32) else if x = 110 then 10002 else if x = 109 then 10001 else if x = 108 then 10000 else -1) = (if x = 108 then 10000 else if x = 109 then 10001 else if x = 110 then 10002 else if x = 118 then 10003 else -1)
    by_cases a : x = 118
    · subst a; rfl
    · rw [if_neg a, if_neg a]
      by_cases b : x = 110
      · subst b; rfl
      · rw [if_neg b, if_neg b]
        by_cases c : x = 109
        · subst c; rfl
        · rw [if_neg c, if_neg c]
  · show (if x = 99 then (10002 : Int32) else if x = 101 then 10001 else if x = 114 then 10000 else -1) = (if x = 114 then 10000 else if x = 101 then 10001 else if x = 99 then 10002 else -1)
    by_cases a : x = 99
    · subst a; rfl
    · rw [if_neg a, if_neg a]
      by_cases b : x = 101
      · subst b; rfl
      · rw [if_neg b, if_neg b]
  · show (if x = 98 then (10002 : Int32) else if x = 107 then 10001 else if x = 99 then 10000 else -1) = (if x = 99 then 10000 else if x = 107 then 10001 else if x = 98 then 10002 else -1)
    by_cases a : x = 98
    · subst a; rfl
    · rw [if_neg a, if_neg a]
      by_cases b : x = 107
      · subst b; rfl
      · rw [if_neg b, if_neg b]
theorem kv_rf_418 : ∀ i, i < 3 → kv_rf 418 i = some (10100 + i) := by decide +kernel
def kpPl (B : Nat → Int32) (n use : Nat) (s : KPs) : KPt := if s.1 < n ∧ kpDg (B s.1) = true then kpNu B n s else kpNa B n use s
set_option maxRecDepth 20000 in
set_option maxHeartbeats 4000000 in
theorem qX12_plain_e {w : KW} {l : Launch} {u : KMem} {g : Nat → Int32} {use : Nat} (mx : kpMx u g use) {f : Nat} {v : KMem} (hX : kpMe u f v) : KC w l mX12_plain 4 0 0 [.ref 413] v (fun r z => r = none ∧ kpMe u f z) := by
  have hu := mx.wd
  have eg := mx.eg
  have hg := mx.hg
  have hw5 := hg.cnt (k := 5) rfl
  obtain ⟨E, g10, g6, hf⟩ := id hX
  have mv := mx.of E
  have hv := mv.wd
  have egv := mv.eg
  refine KC.of (ls := [_, _, _]) rfl rfl (Nat.le_of_ble_eq_true rfl) ?_
  refine kv_iconst dX12_plain_0 (-1) ki_m1 ?_
  refine kv_istore_n (ls2 := [_, _, _]) dX12_plain_1 rfl rfl rfl rfl ?_
  refine kv_aload_n dX12_plain_2 rfl ?_
  refine kw_gI dX12_plain_3 fX12_196 hv (by first | rfl | assumption) rfl rfl ?_
  rw [g10]
  refine kv_if_ne dX12_plain_6 80 (by decide) (fun h1 => ?_) (fun h1 => ?_)
  · refine kv_aload_n dX12_plain_80 rfl ?_
    refine kw_gI dX12_plain_81 fX12_196 hv (by first | rfl | assumption) rfl rfl ?_
    rw [g10]
    refine kv_if_ne dX12_plain_84 163 (by decide) (fun h2 => ?_) (fun h2 => ?_)
    · refine kv_aload_n dX12_plain_163 rfl ?_
      refine kv_aload_n dX12_plain_164 rfl ?_
      refine kw_gI dX12_plain_165 fX12_196 hv (by first | rfl | assumption) rfl rfl ?_
      rw [g10]
      refine kv_if_ne dX12_plain_168 175 (by decide) (fun h3 => ?_) (fun h3 => ?_)
      · refine kv_iconst dX12_plain_175 1 ki_1 ?_
        refine kv_goto dX12_plain_176 180 (by decide) ?_
        refine kw_pZ dX12_plain_180 fX12_196 hv (by first | rfl | assumption) rfl rfl (by first | exact Or.inl rfl | exact Or.inr rfl | assumption) ?_
        refine kv_aload_n dX12_plain_183 rfl ?_
        refine kw_gI dX12_plain_184 fX12_196 hv (by first | rfl | assumption) rfl rfl ?_
        rw [kv_si_s]
        refine kv_if_ne dX12_plain_187 199 (by decide) (fun h4 => ?_) (fun h4 => ?_)
        · exact kv_vret dX12_plain_199 rfl ⟨rfl, E.si (Or.inl ⟨rfl, by omega⟩), kv_si_s _ _ _ _, by rw [kv_si_n (by omega)]; exact g6, by omega⟩
        · exact absurd h4 (by decide)
      · exact absurd h3 (by decide)
    · exact absurd h2 (by decide)
  · exact absurd h1 (by decide)

set_option maxRecDepth 20000 in
set_option maxHeartbeats 4000000 in
theorem qX12_plain_d {w : KW} {l : Launch} {u : KMem} {g : Nat → Int32} {use : Nat} (mx : kpMx u g use) {op : Nat} {v : KMem} {s : KPs} (hX : kpMs u g op s v) (hlt : s.1 < kN g 5) (hd : kpDg (kpB g s.1) = true) (h4 : ¬ 4 < (kpTe (kpB g) (kN g 5) s.1) - s.1) : KC w l mX12_plain 4 0 0 [.ref 413] v (fun r z => r = none ∧ kpMs u g op ((kpNx (kpB g) (kN g 5) s.1), s.2 ++ [(kpVl (kpB g) s.1 ((kpTe (kpB g) (kN g 5) s.1) - s.1))]) z) := by
  have hu := mx.wd
  have eg := mx.eg
  have hg := mx.hg
  have hw5 := hg.cnt (k := 5) rfl
  obtain ⟨E, g10, g6, g7, g9, gc, gs, hp, hsl⟩ := id hX
  have mv := mx.of E
  have hv := mv.wd
  have egv := mv.eg
  have hte := kpTe_le (B := kpB g) hp
  obtain ⟨m, hm, em⟩ := kpVl_b (B := kpB g) (p := s.1) _ (by omega) (kpTe_dg hlt hd)
  have hm4 : 10 ^ ((kpTe (kpB g) (kN g 5) s.1) - s.1) ≤ 10 ^ 4 := Nat.pow_le_pow_right (by decide) (by omega)
  refine KC.of (ls := [_, _, _]) rfl rfl (Nat.le_of_ble_eq_true rfl) ?_
  refine kv_iconst dX12_plain_0 (-1) ki_m1 ?_
  refine kv_istore_n (ls2 := [_, _, _]) dX12_plain_1 rfl rfl rfl rfl ?_
  refine kv_aload_n dX12_plain_2 rfl ?_
  refine kw_gI dX12_plain_3 fX12_196 hv (by first | rfl | assumption) rfl rfl ?_
  rw [g10]
  refine kv_if_ne dX12_plain_6 80 (by decide) (fun h1 => ?_) (fun h1 => ?_)
  · exact absurd rfl h1
  · refine kv_aload_n dX12_plain_9 rfl ?_
    refine kv_aload_n dX12_plain_10 rfl ?_
    refine kw_gI dX12_plain_11 fX12_190 hv (by first | rfl | assumption) rfl rfl ?_
    rw [g6]
    refine kv_bipush dX12_plain_14 48 kb_48 ?_
    refine kv_bipush dX12_plain_16 57 kb_57 ?_
    refine kw_Vi [_, _, _] mX12_isByte dX12_plain_18 lX12_193 wX12_isByte kC12 hv rfl (by first | rfl | assumption) rfl rfl rfl (qX12_isByte mv (p := s.1) hp (P := kpDg) kpDg_i) (by decide) ?_
    refine kw_beq dX12_plain_21 80 (by decide) (fun h2 => ?_) (fun h2 => ?_)
    · exact absurd ⟨hlt, hd⟩ h2
    · refine kv_aload_n dX12_plain_24 rfl ?_
      refine kw_gI dX12_plain_25 fX12_186 hv (by first | rfl | assumption) rfl rfl ?_
      rw [g7]
      refine kv_aload_n dX12_plain_28 rfl ?_
      refine kw_gI dX12_plain_29 fX12_190 hv (by first | rfl | assumption) rfl rfl ?_
      rw [g6]
      refine kv_isub dX12_plain_32 ?_
      rw [show (nI (kpTe (kpB g) (kN g 5) s.1) - nI s.1 : Int32) = nI ((kpTe (kpB g) (kN g 5) s.1) - s.1) from kn_sub rfl rfl hte.1]
      refine kv_iconst dX12_plain_33 5 ki_5 ?_
      refine kv_icmp_ge dX12_plain_34 80 (by decide) (fun h3 => ?_) (fun h3 => ?_)
      · exact absurd ((nI_leI (a := 5) (by omega) (by omega)).mp h3) (by omega)
      · refine kv_iconst dX12_plain_37 0 ki_0 ?_
        refine kv_istore_n (ls2 := [_, _, _]) dX12_plain_38 rfl rfl rfl rfl ?_
        refine kv_aload_n dX12_plain_39 rfl ?_
        refine kw_gI dX12_plain_40 fX12_190 hv (by first | rfl | assumption) rfl rfl ?_
        rw [g6]
        refine kv_istore_n (ls2 := [_, _, _]) dX12_plain_43 rfl rfl rfl rfl ?_
        refine KV.loc (ls2 := [some (.ref 413), some (.int (kpVl (kpB g) s.1 (0))), some (.int (nI (s.1 + (0))))]) ?_ (ksS rfl (ksS rfl (ksS rfl ksN)))
        refine kn_loop (P := fun i => KV w l mX12_plain 4 0 0 44 [some (.ref 413), some (.int (kpVl (kpB g) s.1 (i))), some (.int (nI (s.1 + (i))))] [] v (fun r z => r = none ∧ kpMs u g op ((kpNx (kpB g) (kN g 5) s.1), s.2 ++ [(kpVl (kpB g) s.1 ((kpTe (kpB g) (kN g 5) s.1) - s.1))]) z)) ((kpTe (kpB g) (kN g 5) s.1) - s.1) ?_ (fun i hi ih => ?_)
        · refine kv_iload_n dX12_plain_44 rfl ?_
          refine kv_aload_n dX12_plain_45 rfl ?_
          refine kw_gI dX12_plain_46 fX12_186 hv (by first | rfl | assumption) rfl rfl ?_
          rw [g7]
          refine kv_icmp_ge dX12_plain_49 77 (by decide) (fun h4 => ?_) (fun h4 => ?_)
          · refine kv_goto dX12_plain_77 163 (by decide) ?_
            refine kv_aload_n dX12_plain_163 rfl ?_
            refine kv_aload_n dX12_plain_164 rfl ?_
            refine kw_gI dX12_plain_165 fX12_196 hv (by first | rfl | assumption) rfl rfl ?_
            rw [g10]
            refine kv_if_ne dX12_plain_168 175 (by decide) (fun h5 => ?_) (fun h5 => ?_)
            · exact absurd rfl h5
            · refine kv_iload_n dX12_plain_171 rfl ?_
              refine kv_if_ge dX12_plain_172 179 (by decide) (fun h6 => ?_) (fun h6 => ?_)
              · refine kv_iconst dX12_plain_179 0 ki_0 ?_
                refine kw_pZ dX12_plain_180 fX12_196 hv (by first | rfl | assumption) rfl rfl (by first | exact Or.inl rfl | exact Or.inr rfl | assumption) ?_
                refine kv_aload_n dX12_plain_183 rfl ?_
                refine kw_gI dX12_plain_184 fX12_196 hv (by first | rfl | assumption) rfl rfl ?_
                rw [kv_si_s]
                refine kv_if_ne dX12_plain_187 199 (by decide) (fun h7 => ?_) (fun h7 => ?_)
                · exact absurd rfl h7
                · refine kv_aload_n dX12_plain_190 rfl ?_
                  refine kv_iload_n dX12_plain_191 rfl ?_
                  refine kw_Vv [_] mX12_codes dX12_plain_192 lX12_225 wX12_codes kC12 hv rfl (by first | rfl | assumption) rfl rfl rfl (qX12_codes_y (u := kv_si v 413 10 0) hv (kv_si_s _ _ _ _) (c := s.2.length) (by rw [kv_si_n (by omega)]; exact gc) (by omega) (kpVl (kpB g) s.1 ((kpTe (kpB g) (kN g 5) s.1) - s.1))) (by decide) ?_
                  have E4 : kEq kpN u (kv_si (kv_si (kv_si v 413 10 0) 419 s.2.length (kpVl (kpB g) s.1 ((kpTe (kpB g) (kN g 5) s.1) - s.1))) 413 11 (nI (s.2.length + 1))) := ((E.si (Or.inl ⟨rfl, by omega⟩)).si (Or.inr rfl)).si (Or.inl ⟨rfl, by omega⟩)
                  have m4 := mx.of E4
                  have hu4 := m4.wd
                  refine kv_aload_n dX12_plain_195 rfl ?_
                  refine kw_VQ [] mX12_goOn dX12_plain_196 lX12_211 wX12_goOn kC12 hu4 rfl (by first | rfl | assumption) rfl rfl rfl (qX12_goOn m4 (kpTe (kpB g) (kN g 5) s.1) hte.2 (by rw [kv_si_n (by omega), kv_si_n (by omega), kv_si_n (by omega)]; exact g7)) (by decide) (fun _ v1 q1 => ?_)
                  obtain ⟨rfl, es, z6, z7⟩ := q1
                  have hvs := es.wd m4.wd
                  exact kv_vret dX12_plain_199 rfl ⟨rfl, kpMs.next hlt E4 (by rw [kv_si_n (by omega), kv_si_n (by omega), kv_si_s]) (by rw [kv_si_n (by omega), kv_si_n (by omega), kv_si_n (by omega)]; exact g9) (by rw [kv_si_s, List.length_append]; rfl) (fun i hi => by
    rw [List.length_append, List.length_singleton] at hi
    rw [kv_si_n (by omega)]
    by_cases q : i = s.2.length
    · subst q; rw [kv_si_s, kpGet]
    · rw [kv_si_n (by omega), kv_si_n (by omega), kpGetL (by omega)]; exact gs i (by omega)) (by rw [List.length_append, List.length_singleton]; omega) es z6 z7⟩
              · exact absurd (by rw [em]; exact nI_le (a := 0) (by omega) (by omega)) h6
          · exact absurd (by rw [show s.1 + ((kpTe (kpB g) (kN g 5) s.1) - s.1) = (kpTe (kpB g) (kN g 5) s.1) by omega]; exact Int32.le_refl _) h4
        · refine kv_iload_n dX12_plain_44 rfl ?_
          refine kv_aload_n dX12_plain_45 rfl ?_
          refine kw_gI dX12_plain_46 fX12_186 hv (by first | rfl | assumption) rfl rfl ?_
          rw [g7]
          refine kv_icmp_ge dX12_plain_49 77 (by decide) (fun h8 => ?_) (fun h8 => ?_)
          · exact absurd ((nI_leI (by omega) (by omega)).mp h8) (by omega)
          · refine kv_bipush dX12_plain_52 10 kb_10 ?_
            refine kv_iload_n dX12_plain_54 rfl ?_
            refine kv_imul dX12_plain_55 ?_
            refine kv_aload_n dX12_plain_56 rfl ?_
            refine kw_gR dX12_plain_57 fX12_9 hv (by first | rfl | assumption) rfl rfl (by first | rfl | assumption) ?_
            refine kv_sipush dX12_plain_60 1328 kz_1328 ?_
            refine kv_iload_n dX12_plain_63 rfl ?_
            refine kv_iadd dX12_plain_64 ?_
            refine kw_ig dX12_plain_65 hv egv rfl (1328 + (s.1 + i)) (kn_add (show (1328 : Int32) = nI 1328 from rfl) rfl) (by omega) rfl ?_
            refine kv_iadd dX12_plain_66 ?_
            rw [Int32.mul_comm 10]
            refine kv_bipush dX12_plain_67 48 kb_48 ?_
            refine kv_isub dX12_plain_69 ?_
            refine kv_istore_n (ls2 := [_, _, _]) dX12_plain_70 rfl rfl rfl rfl ?_
            refine kv_iinc (ls2 := [_, _, _]) dX12_plain_71 (nI (s.1 + (i + 1))) rfl (by rw [← Nat.add_assoc]; exact kv_inc1 (s.1 + i)) rfl rfl rfl rfl ?_
            refine kv_goto dX12_plain_74 44 (by decide) ?_
            exact KV.loc ih (ksS rfl (ksS rfl (ksS rfl ksN)))

set_option maxRecDepth 20000 in
set_option maxHeartbeats 4000000 in
theorem qX12_plain_D {w : KW} {l : Launch} {u : KMem} {g : Nat → Int32} {use : Nat} (mx : kpMx u g use) {op : Nat} {v : KMem} {s : KPs} (hX : kpMs u g op s v) (hlt : s.1 < kN g 5) (hd : kpDg (kpB g s.1) = true) (h4 : 4 < (kpTe (kpB g) (kN g 5) s.1) - s.1) : KC w l mX12_plain 4 0 0 [.ref 413] v (fun r z => r = none ∧ kpMe u s.1 z) := by
  have hu := mx.wd
  have eg := mx.eg
  have hg := mx.hg
  have hw5 := hg.cnt (k := 5) rfl
  obtain ⟨E, g10, g6, g7, g9, gc, gs, hp, hsl⟩ := id hX
  have mv := mx.of E
  have hv := mv.wd
  have egv := mv.eg
  have hte := kpTe_le (B := kpB g) hp
  refine KC.of (ls := [_, _, _]) rfl rfl (Nat.le_of_ble_eq_true rfl) ?_
  refine kv_iconst dX12_plain_0 (-1) ki_m1 ?_
  refine kv_istore_n (ls2 := [_, _, _]) dX12_plain_1 rfl rfl rfl rfl ?_
  refine kv_aload_n dX12_plain_2 rfl ?_
  refine kw_gI dX12_plain_3 fX12_196 hv (by first | rfl | assumption) rfl rfl ?_
  rw [g10]
  refine kv_if_ne dX12_plain_6 80 (by decide) (fun h1 => ?_) (fun h1 => ?_)
  · exact absurd rfl h1
  · refine kv_aload_n dX12_plain_9 rfl ?_
    refine kv_aload_n dX12_plain_10 rfl ?_
    refine kw_gI dX12_plain_11 fX12_190 hv (by first | rfl | assumption) rfl rfl ?_
    rw [g6]
    refine kv_bipush dX12_plain_14 48 kb_48 ?_
    refine kv_bipush dX12_plain_16 57 kb_57 ?_
    refine kw_Vi [_, _, _] mX12_isByte dX12_plain_18 lX12_193 wX12_isByte kC12 hv rfl (by first | rfl | assumption) rfl rfl rfl (qX12_isByte mv (p := s.1) hp (P := kpDg) kpDg_i) (by decide) ?_
    refine kw_beq dX12_plain_21 80 (by decide) (fun h2 => ?_) (fun h2 => ?_)
    · exact absurd ⟨hlt, hd⟩ h2
    · refine kv_aload_n dX12_plain_24 rfl ?_
      refine kw_gI dX12_plain_25 fX12_186 hv (by first | rfl | assumption) rfl rfl ?_
      rw [g7]
      refine kv_aload_n dX12_plain_28 rfl ?_
      refine kw_gI dX12_plain_29 fX12_190 hv (by first | rfl | assumption) rfl rfl ?_
      rw [g6]
      refine kv_isub dX12_plain_32 ?_
      rw [show (nI (kpTe (kpB g) (kN g 5) s.1) - nI s.1 : Int32) = nI ((kpTe (kpB g) (kN g 5) s.1) - s.1) from kn_sub rfl rfl hte.1]
      refine kv_iconst dX12_plain_33 5 ki_5 ?_
      refine kv_icmp_ge dX12_plain_34 80 (by decide) (fun h3 => ?_) (fun h3 => ?_)
      · refine kv_aload_n dX12_plain_80 rfl ?_
        refine kw_gI dX12_plain_81 fX12_196 hv (by first | rfl | assumption) rfl rfl ?_
        rw [g10]
        refine kv_if_ne dX12_plain_84 163 (by decide) (fun h4 => ?_) (fun h4 => ?_)
        · exact absurd rfl h4
        · refine kv_aload_n dX12_plain_87 rfl ?_
          refine kw_gI dX12_plain_88 fX12_186 hv (by first | rfl | assumption) rfl rfl ?_
          rw [g7]
          refine kv_aload_n dX12_plain_91 rfl ?_
          refine kw_gI dX12_plain_92 fX12_190 hv (by first | rfl | assumption) rfl rfl ?_
          rw [g6]
          refine kv_isub dX12_plain_95 ?_
          rw [show (nI (kpTe (kpB g) (kN g 5) s.1) - nI s.1 : Int32) = nI ((kpTe (kpB g) (kN g 5) s.1) - s.1) from kn_sub rfl rfl hte.1]
          refine kv_iconst dX12_plain_96 1 ki_1 ?_
          refine kv_icmp_ne dX12_plain_97 163 (by decide) (fun h5 => ?_) (fun h5 => ?_)
          · refine kv_aload_n dX12_plain_163 rfl ?_
            refine kv_aload_n dX12_plain_164 rfl ?_
            refine kw_gI dX12_plain_165 fX12_196 hv (by first | rfl | assumption) rfl rfl ?_
            rw [g10]
            refine kv_if_ne dX12_plain_168 175 (by decide) (fun h6 => ?_) (fun h6 => ?_)
            · exact absurd rfl h6
            · refine kv_iload_n dX12_plain_171 rfl ?_
              refine kv_if_ge dX12_plain_172 179 (by decide) (fun h7 => ?_) (fun h7 => ?_)
              · exact absurd h7 (by decide)
              · refine kv_iconst dX12_plain_175 1 ki_1 ?_
                refine kv_goto dX12_plain_176 180 (by decide) ?_
                refine kw_pZ dX12_plain_180 fX12_196 hv (by first | rfl | assumption) rfl rfl (by first | exact Or.inl rfl | exact Or.inr rfl | assumption) ?_
                refine kv_aload_n dX12_plain_183 rfl ?_
                refine kw_gI dX12_plain_184 fX12_196 hv (by first | rfl | assumption) rfl rfl ?_
                rw [kv_si_s]
                refine kv_if_ne dX12_plain_187 199 (by decide) (fun h8 => ?_) (fun h8 => ?_)
                · exact kv_vret dX12_plain_199 rfl ⟨rfl, E.si (Or.inl ⟨rfl, by omega⟩), kv_si_s _ _ _ _, by rw [kv_si_n (by omega)]; exact g6, by omega⟩
                · exact absurd h8 (by decide)
          · exact absurd ((nI_eq (b := 1) (by omega) (by omega)).mp h5) (by omega)
      · exact absurd (nI_le (a := 5) (by omega) (by omega)) h3

set_option maxRecDepth 20000 in
set_option maxHeartbeats 4000000 in
theorem qX12_plain_m {w : KW} {l : Launch} {u : KMem} {g : Nat → Int32} {use : Nat} (mx : kpMx u g use) {op : Nat} {v : KMem} {s : KPs} (hX : kpMs u g op s v) (hnd : ¬ (s.1 < kN g 5 ∧ kpDg (kpB g s.1) = true)) (hone : ¬ (kpTe (kpB g) (kN g 5) s.1) - s.1 = 1) : KC w l mX12_plain 4 0 0 [.ref 413] v (fun r z => r = none ∧ kpMe u s.1 z) := by
  have hu := mx.wd
  have eg := mx.eg
  have hg := mx.hg
  have hw5 := hg.cnt (k := 5) rfl
  obtain ⟨E, g10, g6, g7, g9, gc, gs, hp, hsl⟩ := id hX
  have mv := mx.of E
  have hv := mv.wd
  have egv := mv.eg
  have hte := kpTe_le (B := kpB g) hp
  refine KC.of (ls := [_, _, _]) rfl rfl (Nat.le_of_ble_eq_true rfl) ?_
  refine kv_iconst dX12_plain_0 (-1) ki_m1 ?_
  refine kv_istore_n (ls2 := [_, _, _]) dX12_plain_1 rfl rfl rfl rfl ?_
  refine kv_aload_n dX12_plain_2 rfl ?_
  refine kw_gI dX12_plain_3 fX12_196 hv (by first | rfl | assumption) rfl rfl ?_
  rw [g10]
  refine kv_if_ne dX12_plain_6 80 (by decide) (fun h1 => ?_) (fun h1 => ?_)
  · exact absurd rfl h1
  · refine kv_aload_n dX12_plain_9 rfl ?_
    refine kv_aload_n dX12_plain_10 rfl ?_
    refine kw_gI dX12_plain_11 fX12_190 hv (by first | rfl | assumption) rfl rfl ?_
    rw [g6]
    refine kv_bipush dX12_plain_14 48 kb_48 ?_
    refine kv_bipush dX12_plain_16 57 kb_57 ?_
    refine kw_Vi [_, _, _] mX12_isByte dX12_plain_18 lX12_193 wX12_isByte kC12 hv rfl (by first | rfl | assumption) rfl rfl rfl (qX12_isByte mv (p := s.1) hp (P := kpDg) kpDg_i) (by decide) ?_
    refine kw_beq dX12_plain_21 80 (by decide) (fun h2 => ?_) (fun h2 => ?_)
    · refine kv_aload_n dX12_plain_80 rfl ?_
      refine kw_gI dX12_plain_81 fX12_196 hv (by first | rfl | assumption) rfl rfl ?_
      rw [g10]
      refine kv_if_ne dX12_plain_84 163 (by decide) (fun h3 => ?_) (fun h3 => ?_)
      · exact absurd rfl h3
      · refine kv_aload_n dX12_plain_87 rfl ?_
        refine kw_gI dX12_plain_88 fX12_186 hv (by first | rfl | assumption) rfl rfl ?_
        rw [g7]
        refine kv_aload_n dX12_plain_91 rfl ?_
        refine kw_gI dX12_plain_92 fX12_190 hv (by first | rfl | assumption) rfl rfl ?_
        rw [g6]
        refine kv_isub dX12_plain_95 ?_
        rw [show (nI (kpTe (kpB g) (kN g 5) s.1) - nI s.1 : Int32) = nI ((kpTe (kpB g) (kN g 5) s.1) - s.1) from kn_sub rfl rfl hte.1]
        refine kv_iconst dX12_plain_96 1 ki_1 ?_
        refine kv_icmp_ne dX12_plain_97 163 (by decide) (fun h4 => ?_) (fun h4 => ?_)
        · refine kv_aload_n dX12_plain_163 rfl ?_
          refine kv_aload_n dX12_plain_164 rfl ?_
          refine kw_gI dX12_plain_165 fX12_196 hv (by first | rfl | assumption) rfl rfl ?_
          rw [g10]
          refine kv_if_ne dX12_plain_168 175 (by decide) (fun h5 => ?_) (fun h5 => ?_)
          · exact absurd rfl h5
          · refine kv_iload_n dX12_plain_171 rfl ?_
            refine kv_if_ge dX12_plain_172 179 (by decide) (fun h6 => ?_) (fun h6 => ?_)
            · exact absurd h6 (by decide)
            · refine kv_iconst dX12_plain_175 1 ki_1 ?_
              refine kv_goto dX12_plain_176 180 (by decide) ?_
              refine kw_pZ dX12_plain_180 fX12_196 hv (by first | rfl | assumption) rfl rfl (by first | exact Or.inl rfl | exact Or.inr rfl | assumption) ?_
              refine kv_aload_n dX12_plain_183 rfl ?_
              refine kw_gI dX12_plain_184 fX12_196 hv (by first | rfl | assumption) rfl rfl ?_
              rw [kv_si_s]
              refine kv_if_ne dX12_plain_187 199 (by decide) (fun h7 => ?_) (fun h7 => ?_)
              · exact kv_vret dX12_plain_199 rfl ⟨rfl, E.si (Or.inl ⟨rfl, by omega⟩), kv_si_s _ _ _ _, by rw [kv_si_n (by omega)]; exact g6, by omega⟩
              · exact absurd h7 (by decide)
        · exact absurd ((nI_eq (b := 1) (by omega) (by omega)).mp h4) hone
    · exact absurd h2 hnd

set_option maxRecDepth 20000 in
set_option maxHeartbeats 4000000 in
theorem qX12_plain_N {w : KW} {l : Launch} {u : KMem} {g : Nat → Int32} {use : Nat} (mx : kpMx u g use) {op : Nat} {v : KMem} {s : KPs} (hX : kpMs u g op s v) (hnd : ¬ (s.1 < kN g 5 ∧ kpDg (kpB g s.1) = true)) (hone : (kpTe (kpB g) (kN g 5) s.1) - s.1 = 1) (hN : kpNm use (kpB g s.1) = -1) : KC w l mX12_plain 4 0 0 [.ref 413] v (fun r z => r = none ∧ kpMe u s.1 z) := by
  have hu := mx.wd
  have eg := mx.eg
  have hg := mx.hg
  have hw5 := hg.cnt (k := 5) rfl
  obtain ⟨E, g10, g6, g7, g9, gc, gs, hp, hsl⟩ := id hX
  have mv := mx.of E
  have hv := mv.wd
  have egv := mv.eg
  have hte := kpTe_le (B := kpB g) hp
  have g8 := mv.fu
  have hus := mx.hus
  have hu18 : use < 18 := by omega
  have h418 := kv_rf_418 use hus
  have h100 := (kv_sl_a use hu18).2
  refine KC.of (ls := [_, _, _]) rfl rfl (Nat.le_of_ble_eq_true rfl) ?_
  refine kv_iconst dX12_plain_0 (-1) ki_m1 ?_
  refine kv_istore_n (ls2 := [_, _, _]) dX12_plain_1 rfl rfl rfl rfl ?_
  refine kv_aload_n dX12_plain_2 rfl ?_
  refine kw_gI dX12_plain_3 fX12_196 hv (by first | rfl | assumption) rfl rfl ?_
  rw [g10]
  refine kv_if_ne dX12_plain_6 80 (by decide) (fun h1 => ?_) (fun h1 => ?_)
  · exact absurd rfl h1
  · refine kv_aload_n dX12_plain_9 rfl ?_
    refine kv_aload_n dX12_plain_10 rfl ?_
    refine kw_gI dX12_plain_11 fX12_190 hv (by first | rfl | assumption) rfl rfl ?_
    rw [g6]
    refine kv_bipush dX12_plain_14 48 kb_48 ?_
    refine kv_bipush dX12_plain_16 57 kb_57 ?_
    refine kw_Vi [_, _, _] mX12_isByte dX12_plain_18 lX12_193 wX12_isByte kC12 hv rfl (by first | rfl | assumption) rfl rfl rfl (qX12_isByte mv (p := s.1) hp (P := kpDg) kpDg_i) (by decide) ?_
    refine kw_beq dX12_plain_21 80 (by decide) (fun h2 => ?_) (fun h2 => ?_)
    · refine kv_aload_n dX12_plain_80 rfl ?_
      refine kw_gI dX12_plain_81 fX12_196 hv (by first | rfl | assumption) rfl rfl ?_
      rw [g10]
      refine kv_if_ne dX12_plain_84 163 (by decide) (fun h3 => ?_) (fun h3 => ?_)
      · exact absurd rfl h3
      · refine kv_aload_n dX12_plain_87 rfl ?_
        refine kw_gI dX12_plain_88 fX12_186 hv (by first | rfl | assumption) rfl rfl ?_
        rw [g7]
        refine kv_aload_n dX12_plain_91 rfl ?_
        refine kw_gI dX12_plain_92 fX12_190 hv (by first | rfl | assumption) rfl rfl ?_
        rw [g6]
        refine kv_isub dX12_plain_95 ?_
        rw [show (nI (kpTe (kpB g) (kN g 5) s.1) - nI s.1 : Int32) = nI ((kpTe (kpB g) (kN g 5) s.1) - s.1) from kn_sub rfl rfl hte.1]
        refine kv_iconst dX12_plain_96 1 ki_1 ?_
        refine kv_icmp_ne dX12_plain_97 163 (by decide) (fun h4 => ?_) (fun h4 => ?_)
        · exact absurd (by rw [hone]; rfl) h4
        · refine kv_iconst dX12_plain_100 0 ki_0 ?_
          refine kv_istore_n (ls2 := [_, _, _]) dX12_plain_101 rfl rfl rfl rfl ?_
          refine KV.loc (ls2 := [some (.ref 413), some (.int (kpNv (kv_sb.getD use []) (kpB g s.1) (0))), some (.int (nI (0)))]) ?_ (ksS rfl (ksS rfl (ksS rfl ksN)))
          refine kn_loop (P := fun k => KV w l mX12_plain 4 0 0 102 [some (.ref 413), some (.int (kpNv (kv_sb.getD use []) (kpB g s.1) (k))), some (.int (nI (k)))] [] v (fun r z => r = none ∧ kpMe u s.1 z)) (kv_sl.getD use 0) ?_ (fun k hk ih => ?_)
          · refine kv_iload_n dX12_plain_102 rfl ?_
            refine kv_aload_n dX12_plain_103 rfl ?_
            refine kw_gR dX12_plain_104 fX12_30 hv (by first | rfl | assumption) rfl rfl (by first | rfl | assumption) ?_
            refine kv_aload_n dX12_plain_107 rfl ?_
            refine kw_gI dX12_plain_108 fX12_284 hv (by first | rfl | assumption) rfl rfl ?_
            rw [g8]
            refine kw_al (t := 5) (n := 3) dX12_plain_111 hv rfl rfl (use) rfl (by omega) rfl (by first | rfl | assumption) ?_
            refine kw_Vs (i := use) [] mJ0_length_8abf5 dX12_plain_112 lX12_200 wJ0_length_8abf5 rfl hu18 rfl rfl rfl (qJ0_length_8abf5 hu18) (by decide) ?_
            refine kv_icmp_ge dX12_plain_115 163 (by decide) (fun h5 => ?_) (fun h5 => ?_)
            · refine kv_aload_n dX12_plain_163 rfl ?_
              refine kv_aload_n dX12_plain_164 rfl ?_
              refine kw_gI dX12_plain_165 fX12_196 hv (by first | rfl | assumption) rfl rfl ?_
              rw [g10]
              refine kv_if_ne dX12_plain_168 175 (by decide) (fun h6 => ?_) (fun h6 => ?_)
              · exact absurd rfl h6
              · refine kv_iload_n dX12_plain_171 rfl ?_
                rw [kpNv_m mx.hus, hN]
                refine kv_if_ge dX12_plain_172 179 (by decide) (fun h7 => ?_) (fun h7 => ?_)
                · exact absurd h7 (by decide)
                · refine kv_iconst dX12_plain_175 1 ki_1 ?_
                  refine kv_goto dX12_plain_176 180 (by decide) ?_
                  refine kw_pZ dX12_plain_180 fX12_196 hv (by first | rfl | assumption) rfl rfl (by first | exact Or.inl rfl | exact Or.inr rfl | assumption) ?_
                  refine kv_aload_n dX12_plain_183 rfl ?_
                  refine kw_gI dX12_plain_184 fX12_196 hv (by first | rfl | assumption) rfl rfl ?_
                  rw [kv_si_s]
                  refine kv_if_ne dX12_plain_187 199 (by decide) (fun h8 => ?_) (fun h8 => ?_)
                  · exact kv_vret dX12_plain_199 rfl ⟨rfl, E.si (Or.inl ⟨rfl, by omega⟩), kv_si_s _ _ _ _, by rw [kv_si_n (by omega)]; exact g6, by omega⟩
                  · exact absurd h8 (by decide)
            · exact absurd (Int32.le_refl _) h5
          · refine kv_iload_n dX12_plain_102 rfl ?_
            refine kv_aload_n dX12_plain_103 rfl ?_
            refine kw_gR dX12_plain_104 fX12_30 hv (by first | rfl | assumption) rfl rfl (by first | rfl | assumption) ?_
            refine kv_aload_n dX12_plain_107 rfl ?_
            refine kw_gI dX12_plain_108 fX12_284 hv (by first | rfl | assumption) rfl rfl ?_
            rw [g8]
            refine kw_al (t := 5) (n := 3) dX12_plain_111 hv rfl rfl (use) rfl (by omega) rfl (by first | rfl | assumption) ?_
            refine kw_Vs (i := use) [] mJ0_length_8abf5 dX12_plain_112 lX12_200 wJ0_length_8abf5 rfl hu18 rfl rfl rfl (qJ0_length_8abf5 hu18) (by decide) ?_
            refine kv_icmp_ge dX12_plain_115 163 (by decide) (fun h9 => ?_) (fun h9 => ?_)
            · exact absurd h9 (kn_ge hk (by omega))
            · refine kv_aload_n dX12_plain_118 rfl ?_
              refine kw_gR dX12_plain_119 fX12_9 hv (by first | rfl | assumption) rfl rfl (by first | rfl | assumption) ?_
              refine kv_sipush dX12_plain_122 1328 kz_1328 ?_
              refine kv_aload_n dX12_plain_125 rfl ?_
              refine kw_gI dX12_plain_126 fX12_190 hv (by first | rfl | assumption) rfl rfl ?_
              rw [g6]
              refine kv_iadd dX12_plain_129 ?_
              refine kw_ig dX12_plain_130 hv egv rfl (1328 + s.1) (kn_add (show (1328 : Int32) = nI 1328 from rfl) rfl) (by omega) rfl ?_
              refine kv_aload_n dX12_plain_131 rfl ?_
              refine kw_gR dX12_plain_132 fX12_30 hv (by first | rfl | assumption) rfl rfl (by first | rfl | assumption) ?_
              refine kv_aload_n dX12_plain_135 rfl ?_
              refine kw_gI dX12_plain_136 fX12_284 hv (by first | rfl | assumption) rfl rfl ?_
              rw [g8]
              refine kw_al (t := 5) (n := 3) dX12_plain_139 hv rfl rfl (use) rfl (by omega) rfl (by first | rfl | assumption) ?_
              refine kv_iload_n dX12_plain_140 rfl ?_
              refine kw_Vs (i := use) [_] mJ0_charAt_5068e dX12_plain_141 lX12_203 wJ0_charAt_5068e rfl hu18 rfl rfl rfl (qJ0_charAt_5068e hu18 hk) (by decide) ?_
              refine kv_icmp_ne dX12_plain_144 155 (by decide) (fun h10 => ?_) (fun h10 => ?_)
              · have hE : kpNv (kv_sb.getD use []) (kpB g s.1) (k + 1) = kpNv (kv_sb.getD use []) (kpB g s.1) k := if_neg h10
                refine kv_iload_n dX12_plain_155 rfl ?_
                refine kv_istore_n (ls2 := [_, _, _]) dX12_plain_156 rfl rfl rfl rfl ?_
                refine kv_iinc (ls2 := [_, _, _]) dX12_plain_157 (nI (k + 1)) rfl (kv_inc1 k) rfl rfl rfl rfl ?_
                refine kv_goto dX12_plain_160 102 (by decide) ?_
                exact KV.loc ih (ksS rfl (ksS (by rw [hE]) (ksS rfl ksN)))
              · have hE : kpNv (kv_sb.getD use []) (kpB g s.1) (k + 1) = 10000 + nI k := if_pos h10
                refine kv_sipush dX12_plain_147 10000 kz_10000 ?_
                refine kv_iload_n dX12_plain_150 rfl ?_
                refine kv_iadd dX12_plain_151 ?_
                refine kv_goto dX12_plain_152 156 (by decide) ?_
                refine kv_istore_n (ls2 := [_, _, _]) dX12_plain_156 rfl rfl rfl rfl ?_
                refine kv_iinc (ls2 := [_, _, _]) dX12_plain_157 (nI (k + 1)) rfl (kv_inc1 k) rfl rfl rfl rfl ?_
                refine kv_goto dX12_plain_160 102 (by decide) ?_
                exact KV.loc ih (ksS rfl (ksS (by rw [hE]) (ksS rfl ksN)))
    · exact absurd h2 hnd

set_option maxRecDepth 20000 in
set_option maxHeartbeats 4000000 in
theorem qX12_plain_n {w : KW} {l : Launch} {u : KMem} {g : Nat → Int32} {use : Nat} (mx : kpMx u g use) {op : Nat} {v : KMem} {s : KPs} (hX : kpMs u g op s v) (hnd : ¬ (s.1 < kN g 5 ∧ kpDg (kpB g s.1) = true)) (hone : (kpTe (kpB g) (kN g 5) s.1) - s.1 = 1) (hN : ¬ kpNm use (kpB g s.1) = -1) : KC w l mX12_plain 4 0 0 [.ref 413] v (fun r z => r = none ∧ kpMs u g op ((kpNx (kpB g) (kN g 5) s.1), s.2 ++ [(kpNm use (kpB g s.1))]) z) := by
  have hu := mx.wd
  have eg := mx.eg
  have hg := mx.hg
  have hw5 := hg.cnt (k := 5) rfl
  obtain ⟨E, g10, g6, g7, g9, gc, gs, hp, hsl⟩ := id hX
  have mv := mx.of E
  have hv := mv.wd
  have egv := mv.eg
  have hte := kpTe_le (B := kpB g) hp
  have g8 := mv.fu
  have hus := mx.hus
  have hu18 : use < 18 := by omega
  have h418 := kv_rf_418 use hus
  have h100 := (kv_sl_a use hu18).2
  have hlt : s.1 < kN g 5 := Decidable.byContradiction fun q => by
    rw [kpTe_ge q] at hone
    omega
  have hN0 : 0 ≤ kpNm use (kpB g s.1) := (kpNm_v use (kpB g s.1)).elim (fun z => absurd z hN) (fun z => z.1)
  refine KC.of (ls := [_, _, _]) rfl rfl (Nat.le_of_ble_eq_true rfl) ?_
  refine kv_iconst dX12_plain_0 (-1) ki_m1 ?_
  refine kv_istore_n (ls2 := [_, _, _]) dX12_plain_1 rfl rfl rfl rfl ?_
  refine kv_aload_n dX12_plain_2 rfl ?_
  refine kw_gI dX12_plain_3 fX12_196 hv (by first | rfl | assumption) rfl rfl ?_
  rw [g10]
  refine kv_if_ne dX12_plain_6 80 (by decide) (fun h1 => ?_) (fun h1 => ?_)
  · exact absurd rfl h1
  · refine kv_aload_n dX12_plain_9 rfl ?_
    refine kv_aload_n dX12_plain_10 rfl ?_
    refine kw_gI dX12_plain_11 fX12_190 hv (by first | rfl | assumption) rfl rfl ?_
    rw [g6]
    refine kv_bipush dX12_plain_14 48 kb_48 ?_
    refine kv_bipush dX12_plain_16 57 kb_57 ?_
    refine kw_Vi [_, _, _] mX12_isByte dX12_plain_18 lX12_193 wX12_isByte kC12 hv rfl (by first | rfl | assumption) rfl rfl rfl (qX12_isByte mv (p := s.1) hp (P := kpDg) kpDg_i) (by decide) ?_
    refine kw_beq dX12_plain_21 80 (by decide) (fun h2 => ?_) (fun h2 => ?_)
    · refine kv_aload_n dX12_plain_80 rfl ?_
      refine kw_gI dX12_plain_81 fX12_196 hv (by first | rfl | assumption) rfl rfl ?_
      rw [g10]
      refine kv_if_ne dX12_plain_84 163 (by decide) (fun h3 => ?_) (fun h3 => ?_)
      · exact absurd rfl h3
      · refine kv_aload_n dX12_plain_87 rfl ?_
        refine kw_gI dX12_plain_88 fX12_186 hv (by first | rfl | assumption) rfl rfl ?_
        rw [g7]
        refine kv_aload_n dX12_plain_91 rfl ?_
        refine kw_gI dX12_plain_92 fX12_190 hv (by first | rfl | assumption) rfl rfl ?_
        rw [g6]
        refine kv_isub dX12_plain_95 ?_
        rw [show (nI (kpTe (kpB g) (kN g 5) s.1) - nI s.1 : Int32) = nI ((kpTe (kpB g) (kN g 5) s.1) - s.1) from kn_sub rfl rfl hte.1]
        refine kv_iconst dX12_plain_96 1 ki_1 ?_
        refine kv_icmp_ne dX12_plain_97 163 (by decide) (fun h4 => ?_) (fun h4 => ?_)
        · exact absurd (by rw [hone]; rfl) h4
        · refine kv_iconst dX12_plain_100 0 ki_0 ?_
          refine kv_istore_n (ls2 := [_, _, _]) dX12_plain_101 rfl rfl rfl rfl ?_
          refine KV.loc (ls2 := [some (.ref 413), some (.int (kpNv (kv_sb.getD use []) (kpB g s.1) (0))), some (.int (nI (0)))]) ?_ (ksS rfl (ksS rfl (ksS rfl ksN)))
          refine kn_loop (P := fun k => KV w l mX12_plain 4 0 0 102 [some (.ref 413), some (.int (kpNv (kv_sb.getD use []) (kpB g s.1) (k))), some (.int (nI (k)))] [] v (fun r z => r = none ∧ kpMs u g op ((kpNx (kpB g) (kN g 5) s.1), s.2 ++ [(kpNm use (kpB g s.1))]) z)) (kv_sl.getD use 0) ?_ (fun k hk ih => ?_)
          · refine kv_iload_n dX12_plain_102 rfl ?_
            refine kv_aload_n dX12_plain_103 rfl ?_
            refine kw_gR dX12_plain_104 fX12_30 hv (by first | rfl | assumption) rfl rfl (by first | rfl | assumption) ?_
            refine kv_aload_n dX12_plain_107 rfl ?_
            refine kw_gI dX12_plain_108 fX12_284 hv (by first | rfl | assumption) rfl rfl ?_
            rw [g8]
            refine kw_al (t := 5) (n := 3) dX12_plain_111 hv rfl rfl (use) rfl (by omega) rfl (by first | rfl | assumption) ?_
            refine kw_Vs (i := use) [] mJ0_length_8abf5 dX12_plain_112 lX12_200 wJ0_length_8abf5 rfl hu18 rfl rfl rfl (qJ0_length_8abf5 hu18) (by decide) ?_
            refine kv_icmp_ge dX12_plain_115 163 (by decide) (fun h5 => ?_) (fun h5 => ?_)
            · refine kv_aload_n dX12_plain_163 rfl ?_
              refine kv_aload_n dX12_plain_164 rfl ?_
              refine kw_gI dX12_plain_165 fX12_196 hv (by first | rfl | assumption) rfl rfl ?_
              rw [g10]
              refine kv_if_ne dX12_plain_168 175 (by decide) (fun h6 => ?_) (fun h6 => ?_)
              · exact absurd rfl h6
              · refine kv_iload_n dX12_plain_171 rfl ?_
                rw [kpNv_m mx.hus]
                refine kv_if_ge dX12_plain_172 179 (by decide) (fun h7 => ?_) (fun h7 => ?_)
                · refine kv_iconst dX12_plain_179 0 ki_0 ?_
                  refine kw_pZ dX12_plain_180 fX12_196 hv (by first | rfl | assumption) rfl rfl (by first | exact Or.inl rfl | exact Or.inr rfl | assumption) ?_
                  refine kv_aload_n dX12_plain_183 rfl ?_
                  refine kw_gI dX12_plain_184 fX12_196 hv (by first | rfl | assumption) rfl rfl ?_
                  rw [kv_si_s]
                  refine kv_if_ne dX12_plain_187 199 (by decide) (fun h8 => ?_) (fun h8 => ?_)
                  · exact absurd rfl h8
                  · refine kv_aload_n dX12_plain_190 rfl ?_
                    refine kv_iload_n dX12_plain_191 rfl ?_
                    refine kw_Vv [_] mX12_codes dX12_plain_192 lX12_225 wX12_codes kC12 hv rfl (by first | rfl | assumption) rfl rfl rfl (qX12_codes_y (u := kv_si v 413 10 0) hv (kv_si_s _ _ _ _) (c := s.2.length) (by rw [kv_si_n (by omega)]; exact gc) (by omega) (kpNm use (kpB g s.1))) (by decide) ?_
                    have E4 : kEq kpN u (kv_si (kv_si (kv_si v 413 10 0) 419 s.2.length (kpNm use (kpB g s.1))) 413 11 (nI (s.2.length + 1))) := ((E.si (Or.inl ⟨rfl, by omega⟩)).si (Or.inr rfl)).si (Or.inl ⟨rfl, by omega⟩)
                    have m4 := mx.of E4
                    have hu4 := m4.wd
                    refine kv_aload_n dX12_plain_195 rfl ?_
                    refine kw_VQ [] mX12_goOn dX12_plain_196 lX12_211 wX12_goOn kC12 hu4 rfl (by first | rfl | assumption) rfl rfl rfl (qX12_goOn m4 (kpTe (kpB g) (kN g 5) s.1) hte.2 (by rw [kv_si_n (by omega), kv_si_n (by omega), kv_si_n (by omega)]; exact g7)) (by decide) (fun _ v1 q1 => ?_)
                    obtain ⟨rfl, es, z6, z7⟩ := q1
                    have hvs := es.wd m4.wd
                    exact kv_vret dX12_plain_199 rfl ⟨rfl, kpMs.next hlt E4 (by rw [kv_si_n (by omega), kv_si_n (by omega), kv_si_s]) (by rw [kv_si_n (by omega), kv_si_n (by omega), kv_si_n (by omega)]; exact g9) (by rw [kv_si_s, List.length_append]; rfl) (fun i hi => by
    rw [List.length_append, List.length_singleton] at hi
    rw [kv_si_n (by omega)]
    by_cases q : i = s.2.length
    · subst q; rw [kv_si_s, kpGet]
    · rw [kv_si_n (by omega), kv_si_n (by omega), kpGetL (by omega)]; exact gs i (by omega)) (by rw [List.length_append, List.length_singleton]; omega) es z6 z7⟩
                · exact absurd hN0 h7
            · exact absurd (Int32.le_refl _) h5
          · refine kv_iload_n dX12_plain_102 rfl ?_
            refine kv_aload_n dX12_plain_103 rfl ?_
            refine kw_gR dX12_plain_104 fX12_30 hv (by first | rfl | assumption) rfl rfl (by first | rfl | assumption) ?_
            refine kv_aload_n dX12_plain_107 rfl ?_
            refine kw_gI dX12_plain_108 fX12_284 hv (by first | rfl | assumption) rfl rfl ?_
            rw [g8]
            refine kw_al (t := 5) (n := 3) dX12_plain_111 hv rfl rfl (use) rfl (by omega) rfl (by first | rfl | assumption) ?_
            refine kw_Vs (i := use) [] mJ0_length_8abf5 dX12_plain_112 lX12_200 wJ0_length_8abf5 rfl hu18 rfl rfl rfl (qJ0_length_8abf5 hu18) (by decide) ?_
            refine kv_icmp_ge dX12_plain_115 163 (by decide) (fun h9 => ?_) (fun h9 => ?_)
            · exact absurd h9 (kn_ge hk (by omega))
            · refine kv_aload_n dX12_plain_118 rfl ?_
              refine kw_gR dX12_plain_119 fX12_9 hv (by first | rfl | assumption) rfl rfl (by first | rfl | assumption) ?_
              refine kv_sipush dX12_plain_122 1328 kz_1328 ?_
              refine kv_aload_n dX12_plain_125 rfl ?_
              refine kw_gI dX12_plain_126 fX12_190 hv (by first | rfl | assumption) rfl rfl ?_
              rw [g6]
              refine kv_iadd dX12_plain_129 ?_
              refine kw_ig dX12_plain_130 hv egv rfl (1328 + s.1) (kn_add (show (1328 : Int32) = nI 1328 from rfl) rfl) (by omega) rfl ?_
              refine kv_aload_n dX12_plain_131 rfl ?_
              refine kw_gR dX12_plain_132 fX12_30 hv (by first | rfl | assumption) rfl rfl (by first | rfl | assumption) ?_
              refine kv_aload_n dX12_plain_135 rfl ?_
              refine kw_gI dX12_plain_136 fX12_284 hv (by first | rfl | assumption) rfl rfl ?_
              rw [g8]
              refine kw_al (t := 5) (n := 3) dX12_plain_139 hv rfl rfl (use) rfl (by omega) rfl (by first | rfl | assumption) ?_
              refine kv_iload_n dX12_plain_140 rfl ?_
              refine kw_Vs (i := use) [_] mJ0_charAt_5068e dX12_plain_141 lX12_203 wJ0_charAt_5068e rfl hu18 rfl rfl rfl (qJ0_charAt_5068e hu18 hk) (by decide) ?_
              refine kv_icmp_ne dX12_plain_144 155 (by decide) (fun h10 => ?_) (fun h10 => ?_)
              · have hE : kpNv (kv_sb.getD use []) (kpB g s.1) (k + 1) = kpNv (kv_sb.getD use []) (kpB g s.1) k := if_neg h10
                refine kv_iload_n dX12_plain_155 rfl ?_
                refine kv_istore_n (ls2 := [_, _, _]) dX12_plain_156 rfl rfl rfl rfl ?_
                refine kv_iinc (ls2 := [_, _, _]) dX12_plain_157 (nI (k + 1)) rfl (kv_inc1 k) rfl rfl rfl rfl ?_
                refine kv_goto dX12_plain_160 102 (by decide) ?_
                exact KV.loc ih (ksS rfl (ksS (by rw [hE]) (ksS rfl ksN)))
              · have hE : kpNv (kv_sb.getD use []) (kpB g s.1) (k + 1) = 10000 + nI k := if_pos h10
                refine kv_sipush dX12_plain_147 10000 kz_10000 ?_
                refine kv_iload_n dX12_plain_150 rfl ?_
                refine kv_iadd dX12_plain_151 ?_
                refine kv_goto dX12_plain_152 156 (by decide) ?_
                refine kv_istore_n (ls2 := [_, _, _]) dX12_plain_156 rfl rfl rfl rfl ?_
                refine kv_iinc (ls2 := [_, _, _]) dX12_plain_157 (nI (k + 1)) rfl (kv_inc1 k) rfl rfl rfl rfl ?_
                refine kv_goto dX12_plain_160 102 (by decide) ?_
                exact KV.loc ih (ksS rfl (ksS (by rw [hE]) (ksS rfl ksN)))
    · exact absurd h2 hnd

theorem qX12_plain {w : KW} {l : Launch} {u : KMem} {g : Nat → Int32} {use : Nat} (mx : kpMx u g use) {op : Nat} {v : KMem} {s : KPs} (hX : kpMs u g op s v) : KC w l mX12_plain 4 0 0 [.ref 413] v (fun r z => r = none ∧ kpMr u g op (kpPl (kpB g) (kN g 5) use s) z) := by
  unfold kpPl
  by_cases hd : s.1 < kN g 5 ∧ kpDg (kpB g s.1) = true
  · rw [if_pos hd]
    unfold kpNu
    by_cases h4 : 4 < (kpTe (kpB g) (kN g 5) s.1) - s.1
    · rw [if_pos h4]; exact qX12_plain_D mx hX hd.1 hd.2 h4
    · rw [if_neg h4]; exact qX12_plain_d mx hX hd.1 hd.2 h4
  · rw [if_neg hd]
    unfold kpNa
    by_cases h1 : (kpTe (kpB g) (kN g 5) s.1) - s.1 = 1
    · by_cases hN : kpNm use (kpB g s.1) = -1
      · rw [if_neg (fun q => q.2 hN)]; exact qX12_plain_N mx hX hd h1 hN
      · rw [if_pos ⟨h1, hN⟩]; exact qX12_plain_n mx hX hd h1 hN
    · rw [if_neg (fun q => h1 q.1)]; exact qX12_plain_m mx hX hd h1
