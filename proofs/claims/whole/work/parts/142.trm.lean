/-! treaty of the model -/
theorem kRM.now2 {a : KA} {u v : KMem} (h : kRM a u) {f : Nat → Int32} (hf : v.2.1 414 = f) (he : ∀ b k, b ≠ 414 → ¬ kSM b k → v.2.1 b k = u.2.1 b k) : kRM (kUp1 a 0 f) v := by
  obtain ⟨h1, h2, h3, h4, h5, h6, h7, h8, h9, hA⟩ := h
  have r : ∀ b, b ≠ 414 → (∀ k, ¬ kSM b k) → v.2.1 b = u.2.1 b := fun b q1 q2 => funext fun k => he b k q1 (q2 k)
  exact ⟨hf, by rw [r _ (by omega) (fun k => by unfold kSM; omega)]; exact h2, by rw [he _ _ (by omega) (by unfold kSM; omega)]; exact h3, by rw [r _ (by omega) (fun k => by unfold kSM; omega)]; exact h4, by rw [r _ (by omega) (fun k => by unfold kSM; omega)]; exact h5, by rw [he _ _ (by omega) (by unfold kSM; omega)]; exact h6, by rw [r _ (by omega) (fun k => by unfold kSM; omega)]; exact h7, by rw [r _ (by omega) (fun k => by unfold kSM; omega)]; exact h8, by rw [r _ (by omega) (fun k => by unfold kSM; omega)]; exact h9, ⟨by rw [r _ (by omega) (fun k => by unfold kSM; omega)]; exact hA.1, by rw [he _ _ (by omega) (by unfold kSM; omega)]; exact hA.2⟩⟩
def ktrH (g : Nat → Int32) (p0 p1 : Int32) (cs : List Int32) (m : Nat) : Nat → Int32 := fun i =>
  if 468 + 66 * kN g 3 + 3 ≤ i ∧ i < 468 + 66 * kN g 3 + 3 + m then cs.getD (i - (468 + 66 * kN g 3 + 3)) 0 else kSet (kSet (kSet (kSet g 5 0) (468 + 66 * kN g 3) p0) (468 + 66 * kN g 3 + 1) p1) (468 + 66 * kN g 3 + 2) (nI cs.length) i
theorem ktrH_0 (g : Nat → Int32) (p0 p1 : Int32) (cs : List Int32) : ktrH g p0 p1 cs 0 = kSet (kSet (kSet (kSet g 5 0) (468 + 66 * kN g 3) p0) (468 + 66 * kN g 3 + 1) p1) (468 + 66 * kN g 3 + 2) (nI cs.length) := funext fun i => if_neg (by omega)
theorem ktrH_s (g : Nat → Int32) (p0 p1 : Int32) (cs : List Int32) (m : Nat) : kSet (ktrH g p0 p1 cs m) (468 + 66 * kN g 3 + 3 + m) (cs.getD m 0) = ktrH g p0 p1 cs (m + 1) := by
  funext i
  by_cases e : i = 468 + 66 * kN g 3 + 3 + m
  · subst e
    rw [kSet_s]
    unfold ktrH
    rw [if_pos (by omega), show 468 + 66 * kN g 3 + 3 + m - (468 + 66 * kN g 3 + 3) = m by omega]
  · rw [kSet_n e]
    unfold ktrH
    by_cases q : 468 + 66 * kN g 3 + 3 ≤ i ∧ i < 468 + 66 * kN g 3 + 3 + m
    · rw [if_pos q, if_pos (by omega)]
    · rw [if_neg q, if_neg (by omega)]
theorem ktrH_3 (g : Nat → Int32) (p0 p1 : Int32) (cs : List Int32) (m : Nat) : ktrH g p0 p1 cs m 3 = g 3 := by
  unfold ktrH
  rw [if_neg (by omega), kSet_n (by omega), kSet_n (by omega), kSet_n (by omega), kSet_n (by omega)]
theorem ktrH_e (g : Nat → Int32) (p0 p1 : Int32) (cs : List Int32) : kSet (ktrH g p0 p1 cs cs.length) 3 (nI (kN g 3 + 1)) = ktrG g p0 p1 cs := by
  funext i
  unfold ktrG
  by_cases e : i = 3
  · subst e; rw [kSet_s, if_pos rfl]
  rw [kSet_n e, if_neg e]
  unfold ktrH
  by_cases q : 468 + 66 * kN g 3 + 3 ≤ i ∧ i < 468 + 66 * kN g 3 + 3 + cs.length
  · rw [if_pos q, if_neg (by omega), if_neg (by omega), if_neg (by omega), if_neg (by omega), if_pos q]
  rw [if_neg q]
  by_cases e2 : i = 468 + 66 * kN g 3 + 2
  · subst e2; rw [kSet_s, if_neg (by omega), if_neg (by omega), if_neg (by omega), if_pos rfl]
  rw [kSet_n e2]
  by_cases e1 : i = 468 + 66 * kN g 3 + 1
  · subst e1; rw [kSet_s, if_neg (by omega), if_neg (by omega), if_pos rfl]
  rw [kSet_n e1]
  by_cases e0 : i = 468 + 66 * kN g 3
  · subst e0; rw [kSet_s, if_neg (by omega), if_pos rfl]
  rw [kSet_n e0]
  by_cases e5 : i = 5
  · subst e5; rw [kSet_s, if_pos rfl]
  rw [kSet_n e5, if_neg e5, if_neg e0, if_neg e1, if_neg e2, if_neg q]
set_option maxRecDepth 20000 in
set_option maxHeartbeats 4000000 in
theorem qX12_treaty {w : KW} {l : Launch} {u : KMem} (hu : kWd u) {a : KA} (hm : kRM a u) (ho : kOk a) (p0 p1 : Int32) : KC w l mX12_treaty 47 0 0 [.ref 413, .int p0, .int p1] u (kOM u (ktreaty a p0 p1).1 (ktreaty a p0 p1).2) := by
  have eg := hm.1
  have hg := ho.1
  have hx20 := (hg.cnt (k := 2) rfl).2
  have hc30 := (hg.cnt (k := 0) rfl).2
  have ht10 := (hg.cnt (k := 3) rfl).2
  have he40 := (hg.cnt (k := 4) rfl).2
  have hs16 := hg.cnt (k := 1) rfl
  have hw3 := hg.cnt (k := 3) rfl
  have hw5 := hg.cnt (k := 5) rfl
  refine KC.of (ls := [_, _, _, _, _, _]) rfl rfl (Nat.le_of_ble_eq_true rfl) ?_
  refine kv_iload_n dX12_treaty_0 rfl ?_
  refine kv_iconst dX12_treaty_1 0 ki_0 ?_
  refine kv_iconst dX12_treaty_2 2 ki_2 ?_
  refine kw_Si [_, _, _] mX12_within dX12_treaty_3 lX12_78 wX12_within rfl rfl rfl (qX12_within (by exact hu) _ _ _) (by omega) ?_
  refine kw_beq dX12_treaty_6 20 (by decide) (fun h1 => ?_) (fun h1 => ?_)
  · have hS : ktreaty a p0 p1 = (-1000001, kF a 1) := if_pos (Or.inl (kIn_n h1))
    refine kv_aload_n dX12_treaty_20 rfl ?_
    refine kv_ldc dX12_treaty_21 kX12_83 ?_
    refine kw_Vi [_] mX12_finding dX12_treaty_23 lX12_84 wX12_finding kC12 hu rfl (by first | rfl | assumption) rfl rfl rfl (qX12_finding (by exact hu) 1 (by decide) (by decide) _ (by decide)) (by omega) ?_
    exact kv_iret dX12_treaty_26 rfl (by rw [hS]; exact kOM.no hm hu rfl)
  · have n1 : ¬ kOut p0 0 2 := kIn_y h1
    refine kv_iload_n dX12_treaty_9 rfl ?_
    refine kv_iconst dX12_treaty_10 0 ki_0 ?_
    refine kv_sipush dX12_treaty_11 999 kz_999 ?_
    refine kw_Si [_, _, _] mX12_within dX12_treaty_14 lX12_78 wX12_within rfl rfl rfl (qX12_within (by exact hu) _ _ _) (by omega) ?_
    refine kw_bne dX12_treaty_17 27 (by decide) (fun h2 => ?_) (fun h2 => ?_)
    · have n2 : ¬ kOut p1 0 999 := kIn_y h2
      have hS : ktreaty a p0 p1 = _ := if_neg (fun q => q.elim n1 n2)
      obtain ⟨use, hus, rfl⟩ := kOut.bd (n := 2) (by omega) n1
      rw [nI_clamp (by omega)] at hS
      have hus3 : use < 3 := by omega
      refine kv_aload_n dX12_treaty_27 rfl ?_
      refine kw_gR dX12_treaty_28 fX12_9 hu (by first | rfl | assumption) rfl rfl (by first | rfl | assumption) ?_
      refine kv_iconst dX12_treaty_31 3 ki_3 ?_
      refine kw_ig dX12_treaty_32 hu eg rfl (_) (show (3 : Int32) = nI 3 from rfl) (by omega) rfl ?_
      rw [hw3.1]
      refine kv_istore_n (ls2 := [_, _, _, _, _, _]) dX12_treaty_33 rfl rfl rfl rfl ?_
      refine kv_iload_n dX12_treaty_34 rfl ?_
      refine kv_bipush dX12_treaty_35 10 kb_10 ?_
      refine kv_icmp_ne dX12_treaty_37 47 (by decide) (fun h3 => ?_) (fun h3 => ?_)
      · have h10 : kN (a 0) 3 < 10 := Nat.lt_of_le_of_ne hw3.2 (fun q => h3 (by rw [q]; rfl))
        rw [if_pos h10] at hS
        refine kv_aload_n dX12_treaty_47 rfl ?_
        refine kv_iload_n dX12_treaty_48 rfl ?_
        refine kw_pI dX12_treaty_49 fX12_284 hu (by first | rfl | assumption) rfl rfl ?_
        refine kv_aload_n dX12_treaty_52 rfl ?_
        refine kv_iconst dX12_treaty_53 0 ki_0 ?_
        refine kw_pI dX12_treaty_54 fX12_186 hu (by first | rfl | assumption) rfl rfl ?_
        refine kv_aload_n dX12_treaty_57 rfl ?_
        refine kv_iconst dX12_treaty_58 0 ki_0 ?_
        refine kw_pI dX12_treaty_59 fX12_257 hu (by first | rfl | assumption) rfl rfl ?_
        refine kv_aload_n dX12_treaty_62 rfl ?_
        refine kv_iconst dX12_treaty_63 0 ki_0 ?_
        refine kw_pZ dX12_treaty_64 fX12_196 hu (by first | rfl | assumption) rfl rfl (by first | exact Or.inl rfl | exact Or.inr rfl | assumption) ?_
        refine kv_aload_n dX12_treaty_67 rfl ?_
        refine kv_iconst dX12_treaty_68 0 ki_0 ?_
        refine kw_pI dX12_treaty_69 fX12_217 hu (by first | rfl | assumption) rfl rfl ?_
        have m1 : kpMx (kv_si (kv_si (kv_si (kv_si (kv_si u 413 8 (nI use)) 413 7 0) 413 9 0) 413 10 0) 413 11 0) (a 0) use := ⟨hu, by rw [kv_si_row (by omega), kv_si_row (by omega), kv_si_row (by omega), kv_si_row (by omega), kv_si_row (by omega)]; exact eg, hg, by rw [kv_si_n (by omega), kv_si_n (by omega), kv_si_n (by omega), kv_si_n (by omega), kv_si_s], hus3⟩
        have hu1 := m1.wd
        refine kv_aload_n dX12_treaty_72 rfl ?_
        refine kw_VQ [] mX12_goOn dX12_treaty_73 lX12_211 wX12_goOn kC12 hu1 rfl (by first | rfl | assumption) rfl rfl rfl (qX12_goOn m1 0 (by omega) (by rw [kv_si_n (by omega), kv_si_n (by omega), kv_si_n (by omega), kv_si_s]; rfl)) (by omega) (fun _ v1 q1 => ?_)
        obtain ⟨rfl, es, z6, z7⟩ := q1
        have x1 : kpMs (kv_si (kv_si (kv_si (kv_si (kv_si u 413 8 (nI use)) 413 7 0) 413 9 0) 413 10 0) 413 11 0) (a 0) 0 (kpSk (kpB (a 0)) (kN (a 0) 5) 0, ([] : List Int32)) v1 := ⟨es.wk (fun a k q => Or.inl (by unfold kpS2 at q; omega)), (es.2.2.1 _ _ (by unfold kpS2; omega)).trans (by rw [kv_si_n (by omega), kv_si_s]), z6, z7, (es.2.2.1 _ _ (by unfold kpS2; omega)).trans (by rw [kv_si_n (by omega), kv_si_n (by omega), kv_si_s]; rfl), (es.2.2.1 _ _ (by unfold kpS2; omega)).trans (kv_si_s _ _ _ _), fun i hi => absurd hi (Nat.not_lt_zero _), (kpSk_le (Nat.zero_le _)).2, Nat.zero_le _⟩
        have hv1 := x1.1.wd hu1
        have hTx : KC w l mX12_text 46 0 0 [.ref 413] v1 (fun q z => q = none ∧ kpMr (kv_si (kv_si (kv_si (kv_si (kv_si u 413 8 (nI use)) 413 7 0) 413 9 0) 413 10 0) 413 11 0) (a 0) 0 (kpPr (kpB (a 0)) (kN (a 0) 5) use 36 0 0 (kpSk (kpB (a 0)) (kN (a 0) 5) 0, ([] : List Int32))) z) := qX12_all m1 36 0 0 (kpSk (kpB (a 0)) (kN (a 0) 5) 0, ([] : List Int32)) v1 (by omega) (by omega) (by omega) x1
        refine kv_aload_n dX12_treaty_76 rfl ?_
        refine kw_VQ [] mX12_text dX12_treaty_77 lX12_268 wX12_text kC12 hv1 rfl (by first | rfl | assumption) rfl rfl rfl hTx (by omega) (fun _ v2 q2 => ?_)
        obtain ⟨rfl, x2⟩ := q2
        have hv2 := x2.e.wd hu1
        have V0 : ∀ b k, ¬ kSM b k → v2.2.1 b k = u.2.1 b k := fun b k q => by
          unfold kSM at q
          rw [x2.e.2.2.1 b k (by unfold kpN; omega), kv_si_n (by omega), kv_si_n (by omega), kv_si_n (by omega), kv_si_n (by omega), kv_si_n (by omega)]
        have eg2 : v2.2.1 414 = a 0 := (m1.of x2.e).eg
        have g8 := (m1.of x2.e).fu
        refine kv_aload_n dX12_treaty_80 rfl ?_
        refine kv_aload_n dX12_treaty_81 rfl ?_
        rcases hr_ : kpPr (kpB (a 0)) (kN (a 0) 5) use 36 0 0 (kpSk (kpB (a 0)) (kN (a 0) 5) 0, ([] : List Int32)) with f | s
        · rw [hr_] at x2
          obtain ⟨E2, g10, g6, hf⟩ := id (show kpMe (kv_si (kv_si (kv_si (kv_si (kv_si u 413 8 (nI use)) 413 7 0) 413 9 0) 413 10 0) 413 11 0) f v2 from x2)
          have hF : kTrd (a 0) use = .error f := by
            show kpFin (kpB (a 0)) (kN (a 0) 5) (kpPr (kpB (a 0)) (kN (a 0) 5) use 36 0 0 (kpSk (kpB (a 0)) (kN (a 0) 5) 0, ([] : List Int32))) = _
            rw [hr_]
            rfl
          refine kw_gI dX12_treaty_82 fX12_196 hv2 (by first | rfl | assumption) rfl rfl ?_
          rw [g10]
          refine kv_if_ne dX12_treaty_85 101 (by decide) (fun h4 => ?_) (fun h4 => ?_)
          · refine kv_iconst dX12_treaty_101 1 ki_1 ?_
            refine kv_goto dX12_treaty_102 106 (by decide) ?_
            refine kw_pZ dX12_treaty_106 fX12_196 hv2 (by first | rfl | assumption) rfl rfl (by first | exact Or.inl rfl | exact Or.inr rfl | assumption) ?_
            have eg3 : ∀ x, (kv_si v2 413 10 x).2.1 414 = a 0 := fun x => (kv_si_row (by omega)).trans eg2
            refine kv_aload_n dX12_treaty_109 rfl ?_
            refine kw_gR dX12_treaty_110 fX12_9 hv2 (by first | rfl | assumption) rfl rfl (by first | rfl | assumption) ?_
            refine kv_iconst dX12_treaty_113 5 ki_5 ?_
            refine kv_iconst dX12_treaty_114 0 ki_0 ?_
            refine kw_isg dX12_treaty_115 hv2 (eg3 _) (fun _ _ => rfl) (5) (show (5 : Int32) = nI 5 from rfl) (by omega) (fun vw1 huw1 egw1 evw1 => ?_)
            refine kv_aload_n dX12_treaty_116 rfl ?_
            refine kw_gI dX12_treaty_117 fX12_196 huw1 (by first | rfl | assumption) rfl rfl ?_
            rw [evw1 413 (by omega), kv_si_s]
            refine kv_if_eq dX12_treaty_120 131 (by decide) (fun h5 => ?_) (fun h5 => ?_)
            · exact absurd h5 (by decide)
            · refine kv_bipush dX12_treaty_123 (-10) kb_m10 ?_
              refine kv_aload_n dX12_treaty_125 rfl ?_
              refine kw_gI dX12_treaty_126 fX12_190 huw1 (by first | rfl | assumption) rfl rfl ?_
              rw [evw1 413 (by omega), kv_si_n (by omega), g6]
              refine kv_isub dX12_treaty_129 ?_
              exact kv_iret dX12_treaty_130 rfl (by
                  rw [hS, hF]
                  exact ⟨rfl, huw1, fun b hb => (evw1 b (by omega)).trans ((kv_si_row (by omega)).trans (funext fun k => V0 b k (by unfold kSM; omega))), hm.now2 egw1 (fun b k h1 q => by rw [evw1 b h1]; exact (kv_si_n (by unfold kSM at q; omega)).trans (V0 b k q))⟩)
          · exact absurd h4 (by decide)
        · rw [hr_] at x2
          obtain ⟨E2, g10, g6, g7, g9, gc, gs, hp, hsl⟩ := id (show kpMs (kv_si (kv_si (kv_si (kv_si (kv_si u 413 8 (nI use)) 413 7 0) 413 9 0) 413 10 0) 413 11 0) (a 0) 0 s v2 from x2)
          have hFF : kTrd (a 0) use = kpFin (kpB (a 0)) (kN (a 0) 5) (.ok s) := by
            show kpFin (kpB (a 0)) (kN (a 0) 5) (kpPr (kpB (a 0)) (kN (a 0) 5) use 36 0 0 (kpSk (kpB (a 0)) (kN (a 0) 5) 0, ([] : List Int32))) = _
            rw [hr_]
          refine kw_gI dX12_treaty_82 fX12_196 hv2 (by first | rfl | assumption) rfl rfl ?_
          rw [g10]
          refine kv_if_ne dX12_treaty_85 101 (by decide) (fun h6 => ?_) (fun h6 => ?_)
          · exact absurd rfl h6
          · refine kv_aload_n dX12_treaty_88 rfl ?_
            refine kw_gI dX12_treaty_89 fX12_190 hv2 (by first | rfl | assumption) rfl rfl ?_
            rw [g6]
            refine kv_aload_n dX12_treaty_92 rfl ?_
            refine kw_gR dX12_treaty_93 fX12_9 hv2 (by first | rfl | assumption) rfl rfl (by first | rfl | assumption) ?_
            refine kv_iconst dX12_treaty_96 5 ki_5 ?_
            refine kw_ig dX12_treaty_97 hv2 eg2 rfl (_) (show (5 : Int32) = nI 5 from rfl) (by omega) rfl ?_
            rw [hw5.1]
            refine kv_icmp_ge dX12_treaty_98 105 (by decide) (fun h7 => ?_) (fun h7 => ?_)
            · have hF : kTrd (a 0) use = .ok s := hFF.trans (if_pos ((kpWo_end (fun i hi => hg.2.2.2.2.2.2.2.2 i hi)).mpr (Nat.not_lt.mpr ((nI_leI (by omega) (by omega)).mp h7))))
              obtain ⟨o1, o2, o3⟩ := kTrd_ok hg hF
              refine kv_iconst dX12_treaty_105 0 ki_0 ?_
              refine kw_pZ dX12_treaty_106 fX12_196 hv2 (by first | rfl | assumption) rfl rfl (by first | exact Or.inl rfl | exact Or.inr rfl | assumption) ?_
              have eg3 : ∀ x, (kv_si v2 413 10 x).2.1 414 = a 0 := fun x => (kv_si_row (by omega)).trans eg2
              refine kv_aload_n dX12_treaty_109 rfl ?_
              refine kw_gR dX12_treaty_110 fX12_9 hv2 (by first | rfl | assumption) rfl rfl (by first | rfl | assumption) ?_
              refine kv_iconst dX12_treaty_113 5 ki_5 ?_
              refine kv_iconst dX12_treaty_114 0 ki_0 ?_
              refine kw_isg dX12_treaty_115 hv2 (eg3 _) (fun _ _ => rfl) (5) (show (5 : Int32) = nI 5 from rfl) (by omega) (fun vw2 huw2 egw2 evw2 => ?_)
              refine kv_aload_n dX12_treaty_116 rfl ?_
              refine kw_gI dX12_treaty_117 fX12_196 huw2 (by first | rfl | assumption) rfl rfl ?_
              rw [evw2 413 (by omega), kv_si_s]
              refine kv_if_eq dX12_treaty_120 131 (by decide) (fun h8 => ?_) (fun h8 => ?_)
              · refine kv_sipush dX12_treaty_131 468 kz_468 ?_
                refine kv_bipush dX12_treaty_134 66 kb_66 ?_
                refine kv_iload_n dX12_treaty_136 rfl ?_
                refine kv_imul dX12_treaty_137 ?_
                refine kv_iadd dX12_treaty_138 ?_
                rw [show (468 + 66 * nI (kN (a 0) 3) : Int32) = nI (468 + 66 * kN (a 0) 3) from kn_add (show (468 : Int32) = nI 468 from rfl) (kn_mul (show (66 : Int32) = nI 66 from rfl) rfl)]
                refine kv_istore (ls2 := [_, _, _, _, _, _]) dX12_treaty_139 rfl rfl rfl rfl ?_
                refine kv_aload_n dX12_treaty_141 rfl ?_
                refine kw_gR dX12_treaty_142 fX12_9 huw2 (by first | rfl | assumption) rfl rfl (by first | rfl | assumption) ?_
                refine kv_iload dX12_treaty_145 rfl ?_
                refine kv_aload_n dX12_treaty_147 rfl ?_
                refine kw_gI dX12_treaty_148 fX12_284 huw2 (by first | rfl | assumption) rfl rfl ?_
                rw [evw2 413 (by omega), kv_si_n (by omega), g8]
                refine kw_isg dX12_treaty_151 huw2 egw2 evw2 (468 + 66 * kN (a 0) 3) rfl (by omega) (fun vw3 huw3 egw3 evw3 => ?_)
                refine kv_aload_n dX12_treaty_152 rfl ?_
                refine kw_gR dX12_treaty_153 fX12_9 huw3 (by first | rfl | assumption) rfl rfl (by first | rfl | assumption) ?_
                refine kv_iload dX12_treaty_156 rfl ?_
                refine kv_iconst dX12_treaty_158 1 ki_1 ?_
                refine kv_iadd dX12_treaty_159 ?_
                refine kv_iload_n dX12_treaty_160 rfl ?_
                refine kw_isg dX12_treaty_161 huw3 egw3 evw3 (468 + 66 * kN (a 0) 3 + 1) (kn_add rfl (show (1 : Int32) = nI 1 from rfl)) (by omega) (fun vw4 huw4 egw4 evw4 => ?_)
                refine kv_aload_n dX12_treaty_162 rfl ?_
                refine kw_gR dX12_treaty_163 fX12_9 huw4 (by first | rfl | assumption) rfl rfl (by first | rfl | assumption) ?_
                refine kv_iload dX12_treaty_166 rfl ?_
                refine kv_iconst dX12_treaty_168 2 ki_2 ?_
                refine kv_iadd dX12_treaty_169 ?_
                refine kv_aload_n dX12_treaty_170 rfl ?_
                refine kw_gI dX12_treaty_171 fX12_217 huw4 (by first | rfl | assumption) rfl rfl ?_
                rw [evw4 413 (by omega), kv_si_n (by omega), gc]
                refine kw_isg dX12_treaty_174 huw4 egw4 evw4 (468 + 66 * kN (a 0) 3 + 2) (kn_add rfl (show (2 : Int32) = nI 2 from rfl)) (by omega) (fun vw5 huw5 egw5 evw5 => ?_)
                refine kv_iconst dX12_treaty_175 0 ki_0 ?_
                refine kv_istore (ls2 := [_, _, _, _, _, _]) dX12_treaty_176 rfl rfl rfl rfl ?_
                refine KV.loc (ls2 := [some (.ref 413), none, none, some (.int (nI (kN (a 0) 3))), some (.int (nI (468 + 66 * kN (a 0) 3))), some (.int (nI (0)))]) ?_ (ksS rfl (ks0 (ks0 (ksS rfl (ksS rfl (ksS rfl ksN))))))
                refine kn_loop (P := fun k => ∀ v5 : KMem, kWd v5 → v5.2.1 414 = ktrH (a 0) (nI use) p1 s.2 k → (∀ b, b ≠ 414 → v5.2.1 b = (kv_si v2 413 10 0).2.1 b) → KV w l mX12_treaty 47 0 0 178 [some (.ref 413), none, none, some (.int (nI (kN (a 0) 3))), some (.int (nI (468 + 66 * kN (a 0) 3))), some (.int (nI k))] [] v5 (kOM u (ktreaty a (nI use) p1).1 (ktreaty a (nI use) p1).2)) (s.2.length) ?_ (fun k hk ih => ?_) _ huw5 (egw5.trans (ktrH_0 _ _ _ _).symm) evw5
                · intro v5 hvk egk evk
                  refine kv_iload dX12_treaty_178 rfl ?_
                  refine kv_aload_n dX12_treaty_180 rfl ?_
                  refine kw_gI dX12_treaty_181 fX12_217 hvk (by first | rfl | assumption) rfl rfl ?_
                  rw [evk 413 (by omega), kv_si_n (by omega), gc]
                  refine kv_icmp_ge dX12_treaty_184 212 (by decide) (fun h9 => ?_) (fun h9 => ?_)
                  · refine kv_aload_n dX12_treaty_212 rfl ?_
                    refine kw_gR dX12_treaty_213 fX12_9 hvk (by first | rfl | assumption) rfl rfl (by first | rfl | assumption) ?_
                    refine kv_iconst dX12_treaty_216 3 ki_3 ?_
                    refine kv_dup2 dX12_treaty_217 rfl rfl ?_
                    refine kw_ig dX12_treaty_218 hvk egk rfl (_) (show (3 : Int32) = nI 3 from rfl) (by omega) rfl ?_
                    rw [ktrH_3, hw3.1]
                    refine kv_iconst dX12_treaty_219 1 ki_1 ?_
                    refine kv_iadd dX12_treaty_220 ?_
                    rw [show (nI (kN (a 0) 3) + 1 : Int32) = nI (kN (a 0) 3 + 1) from kn_add rfl (show (1 : Int32) = nI 1 from rfl)]
                    refine kw_isg dX12_treaty_221 hvk egk evk (3) (show (3 : Int32) = nI 3 from rfl) (by omega) (fun vw6 huw6 egw6 evw6 => ?_)
                    refine kv_iload_n dX12_treaty_222 rfl ?_
                    exact kv_iret dX12_treaty_223 rfl (by
                        rw [hS, hF]
                        exact ⟨rfl, huw6, fun b hb => (evw6 b (by omega)).trans ((kv_si_row (by omega)).trans (funext fun k => V0 b k (by unfold kSM; omega))), hm.now2 (egw6.trans (ktrH_e _ _ _ _)) (fun b k h1 q => by rw [evw6 b h1]; exact (kv_si_n (by unfold kSM at q; omega)).trans (V0 b k q))⟩)
                  · exact absurd (Int32.le_refl _) h9
                · intro v5 hvk egk evk
                  refine kv_iload dX12_treaty_178 rfl ?_
                  refine kv_aload_n dX12_treaty_180 rfl ?_
                  refine kw_gI dX12_treaty_181 fX12_217 hvk (by first | rfl | assumption) rfl rfl ?_
                  rw [evk 413 (by omega), kv_si_n (by omega), gc]
                  refine kv_icmp_ge dX12_treaty_184 212 (by decide) (fun h10 => ?_) (fun h10 => ?_)
                  · exact absurd h10 (kn_ge hk (by omega))
                  · refine kv_aload_n dX12_treaty_187 rfl ?_
                    refine kw_gR dX12_treaty_188 fX12_9 hvk (by first | rfl | assumption) rfl rfl (by first | rfl | assumption) ?_
                    refine kv_iload dX12_treaty_191 rfl ?_
                    refine kv_iconst dX12_treaty_193 3 ki_3 ?_
                    refine kv_iadd dX12_treaty_194 ?_
                    refine kv_iload dX12_treaty_195 rfl ?_
                    refine kv_iadd dX12_treaty_197 ?_
                    refine kv_aload_n dX12_treaty_198 rfl ?_
                    refine kw_gR dX12_treaty_199 fX12_34 hvk (by first | rfl | assumption) rfl rfl (by first | rfl | assumption) ?_
                    refine kv_iload dX12_treaty_202 rfl ?_
                    refine kw_il dX12_treaty_204 hvk (by first | rfl | assumption) (k) rfl (by omega) rfl ?_
                    rw [evk 419 (by omega), kv_si_n (by omega), gs k hk]
                    refine kw_isg dX12_treaty_205 hvk egk evk (468 + 66 * kN (a 0) 3 + 3 + k) (kn_add (kn_add rfl (show (3 : Int32) = nI 3 from rfl)) rfl) (by omega) (fun vw7 huw7 egw7 evw7 => ?_)
                    refine kv_iinc (ls2 := [_, _, _, _, _, _]) dX12_treaty_206 (nI (k + 1)) rfl (kv_inc1 k) rfl rfl rfl rfl ?_
                    refine kv_goto dX12_treaty_209 178 (by decide) ?_
                    exact KV.loc (ih _ huw7 (egw7.trans (ktrH_s _ _ _ _ _)) evw7) (ksS rfl (ks0 (ks0 (ksS rfl (ksS rfl (ksS rfl ksN))))))
              · exact absurd rfl h8
            · have hF : kTrd (a 0) use = .error s.1 := hFF.trans (if_neg (fun q => h7 (nI_le (Nat.le_of_not_lt ((kpWo_end (fun i hi => hg.2.2.2.2.2.2.2.2 i hi)).mp q)) (by omega))))
              refine kv_iconst dX12_treaty_101 1 ki_1 ?_
              refine kv_goto dX12_treaty_102 106 (by decide) ?_
              refine kw_pZ dX12_treaty_106 fX12_196 hv2 (by first | rfl | assumption) rfl rfl (by first | exact Or.inl rfl | exact Or.inr rfl | assumption) ?_
              have eg3 : ∀ x, (kv_si v2 413 10 x).2.1 414 = a 0 := fun x => (kv_si_row (by omega)).trans eg2
              refine kv_aload_n dX12_treaty_109 rfl ?_
              refine kw_gR dX12_treaty_110 fX12_9 hv2 (by first | rfl | assumption) rfl rfl (by first | rfl | assumption) ?_
              refine kv_iconst dX12_treaty_113 5 ki_5 ?_
              refine kv_iconst dX12_treaty_114 0 ki_0 ?_
              refine kw_isg dX12_treaty_115 hv2 (eg3 _) (fun _ _ => rfl) (5) (show (5 : Int32) = nI 5 from rfl) (by omega) (fun vw8 huw8 egw8 evw8 => ?_)
              refine kv_aload_n dX12_treaty_116 rfl ?_
              refine kw_gI dX12_treaty_117 fX12_196 huw8 (by first | rfl | assumption) rfl rfl ?_
              rw [evw8 413 (by omega), kv_si_s]
              refine kv_if_eq dX12_treaty_120 131 (by decide) (fun h11 => ?_) (fun h11 => ?_)
              · exact absurd h11 (by decide)
              · refine kv_bipush dX12_treaty_123 (-10) kb_m10 ?_
                refine kv_aload_n dX12_treaty_125 rfl ?_
                refine kw_gI dX12_treaty_126 fX12_190 huw8 (by first | rfl | assumption) rfl rfl ?_
                rw [evw8 413 (by omega), kv_si_n (by omega), g6]
                refine kv_isub dX12_treaty_129 ?_
                exact kv_iret dX12_treaty_130 rfl (by
                    rw [hS, hF]
                    exact ⟨rfl, huw8, fun b hb => (evw8 b (by omega)).trans ((kv_si_row (by omega)).trans (funext fun k => V0 b k (by unfold kSM; omega))), hm.now2 egw8 (fun b k h1 q => by rw [evw8 b h1]; exact (kv_si_n (by unfold kSM at q; omega)).trans (V0 b k q))⟩)
      · have h10 : ¬ kN (a 0) 3 < 10 := by have := (nI_eq (b := 10) (by omega) (by omega)).mp h3; omega
        rw [if_neg h10] at hS
        refine kv_aload_n dX12_treaty_40 rfl ?_
        refine kv_ldc dX12_treaty_41 kX12_88 ?_
        refine kw_Vi [_] mX12_finding dX12_treaty_43 lX12_84 wX12_finding kC12 hu rfl (by first | rfl | assumption) rfl rfl rfl (qX12_finding (by exact hu) 4 (by decide) (by decide) _ (by decide)) (by omega) ?_
        exact kv_iret dX12_treaty_46 rfl (by rw [hS]; exact kOM.no hm hu rfl)
    · have hS : ktreaty a p0 p1 = (-1000001, kF a 1) := if_pos (Or.inr ((kIn_n h2)))
      refine kv_aload_n dX12_treaty_20 rfl ?_
      refine kv_ldc dX12_treaty_21 kX12_83 ?_
      refine kw_Vi [_] mX12_finding dX12_treaty_23 lX12_84 wX12_finding kC12 hu rfl (by first | rfl | assumption) rfl rfl rfl (qX12_finding (by exact hu) 1 (by decide) (by decide) _ (by decide)) (by omega) ?_
      exact kv_iret dX12_treaty_26 rfl (by rw [hS]; exact kOM.no hm hu rfl)

