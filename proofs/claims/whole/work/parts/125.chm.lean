set_option maxRecDepth 20000 in
set_option maxHeartbeats 4000000 in
theorem qX12_chain {w : KW} {l : Launch} {u : KMem} (hu : kWd u) {a : KA} (hm : kRM a u) (ho : kOk a) (p0 p1 p2 : Int32) : KC w l mX12_chain 9 0 0 [.ref 413, .int p0, .int p1, .int p2] u (kOM u (kchain a p0 p1 p2).1 (kchain a p0 p1 p2).2) := by
  have eg := hm.1
  have hg := ho.1
  have hx20 := (hg.cnt (k := 2) rfl).2
  have hc30 := (hg.cnt (k := 0) rfl).2
  have ht10 := (hg.cnt (k := 3) rfl).2
  have he40 := (hg.cnt (k := 4) rfl).2
  have hs16 := hg.cnt (k := 1) rfl
  refine KC.of (ls := [_, _, _, _, _]) rfl rfl (Nat.le_of_ble_eq_true rfl) ?_
  refine kv_iload_n dX12_chain_0 rfl ?_
  refine kw_Si [_] mX12_isSheet dX12_chain_1 lX12_359 wX12_isSheet rfl rfl rfl (qX12_isSheet (by exact hu) _) (by omega) ?_
  refine kw_beq dX12_chain_4 22 (by decide) (fun h1 => ?_) (fun h1 => ?_)
  · have hS : kchain a p0 p1 p2 = (-1000001, kF a 1) := if_pos (Or.inl (kIn_n h1))
    refine kv_aload_n dX12_chain_22 rfl ?_
    refine kv_ldc dX12_chain_23 kX12_83 ?_
    refine kw_Vi [_] mX12_finding dX12_chain_25 lX12_84 wX12_finding kC12 hu rfl (by first | rfl | assumption) rfl rfl rfl (qX12_finding (by exact hu) 1 (by decide) (by decide) _ (by decide)) (by omega) ?_
    exact kv_iret dX12_chain_28 rfl (by rw [hS]; exact kOM.no hm hu rfl)
  · have n1 : ¬ kOut p0 0 3 := kIn_y h1
    refine kv_iload_n dX12_chain_7 rfl ?_
    refine kv_iconst dX12_chain_8 0 ki_0 ?_
    refine kv_sipush dX12_chain_9 999 kz_999 ?_
    refine kw_Si [_, _, _] mX12_within dX12_chain_12 lX12_78 wX12_within rfl rfl rfl (qX12_within (by exact hu) _ _ _) (by omega) ?_
    refine kw_beq dX12_chain_15 22 (by decide) (fun h2 => ?_) (fun h2 => ?_)
    · have hS : kchain a p0 p1 p2 = (-1000001, kF a 1) := if_pos (Or.inr (Or.inl (kIn_n h2)))
      refine kv_aload_n dX12_chain_22 rfl ?_
      refine kv_ldc dX12_chain_23 kX12_83 ?_
      refine kw_Vi [_] mX12_finding dX12_chain_25 lX12_84 wX12_finding kC12 hu rfl (by first | rfl | assumption) rfl rfl rfl (qX12_finding (by exact hu) 1 (by decide) (by decide) _ (by decide)) (by omega) ?_
      exact kv_iret dX12_chain_28 rfl (by rw [hS]; exact kOM.no hm hu rfl)
    · have n2 : ¬ kOut p1 0 999 := kIn_y h2
      refine kv_iload_n dX12_chain_18 rfl ?_
      refine kv_if_ge dX12_chain_19 29 (by decide) (fun h3 => ?_) (fun h3 => ?_)
      · have n3 : ¬ p2 < 0 := Int32.not_lt.mpr h3
        have hS : kchain a p0 p1 p2 = _ := if_neg (fun q => q.elim n1 (fun q => q.elim n2 n3))
        obtain ⟨s, hs3, rfl⟩ := kOut.bd (n := 3) (by omega) n1
        have hs : s < 4 := by omega
        rw [nI_clamp (by omega)] at hS
        have h7 := (ho.2.2.2 s hs).1.n (by omega)
        have h24 : kN (a 7) s ≤ 24 := h7.2
        have e7 : a 7 s = nI (kN (a 7) s) := h7.1
        have r2 : (nI (kN (a 7) s) - nI (kN (a 7) s) / 2 * 2 : Int32) = nI (kN (a 7) s % 2) := kn_rem (d := 2) (by omega) (by omega) (by omega)
        have d2 : (nI (kN (a 7) s) / 2 : Int32) = nI (kN (a 7) s / 2) := pk_div (d := 2) (by omega) (by omega) (by omega)
        obtain ⟨oo, hoo, rfl⟩ := kOut.bd (n := 999) (by omega) n2
        have m6_ := hm.2.2.2.2.2.2.1
        have m7_ := hm.2.2.2.2.2.2.2.1
        have m8_ := hm.2.2.2.2.2.2.2.2.1
        refine kv_aload_n dX12_chain_29 rfl ?_
        refine kw_gR dX12_chain_30 fX12_65 hu (by first | rfl | assumption) rfl rfl (by first | rfl | assumption) ?_
        refine kv_iload_n dX12_chain_33 rfl ?_
        refine kw_il dX12_chain_34 hu (by first | rfl | assumption) (s) rfl (by omega) rfl ?_
        rw [m6_]
        refine kv_if_ne dX12_chain_35 46 (by decide) (fun h4 => ?_) (fun h4 => ?_)
        · rw [if_neg h4] at hS
          refine kv_aload_n dX12_chain_46 rfl ?_
          refine kw_gR dX12_chain_47 fX12_68 hu (by first | rfl | assumption) rfl rfl (by first | rfl | assumption) ?_
          refine kv_iload_n dX12_chain_50 rfl ?_
          refine kw_il dX12_chain_51 hu (by first | rfl | assumption) (s) rfl (by omega) rfl ?_
          rw [m7_, e7]
          refine kv_iconst dX12_chain_52 2 ki_2 ?_
          refine kv_idiv dX12_chain_53 (by decide) ?_
          rw [d2]
          refine kv_istore (ls2 := [_, _, _, _, _]) dX12_chain_54 rfl rfl rfl rfl ?_
          refine kv_aload_n dX12_chain_56 rfl ?_
          refine kw_gR dX12_chain_57 fX12_68 hu (by first | rfl | assumption) rfl rfl (by first | rfl | assumption) ?_
          refine kv_iload_n dX12_chain_60 rfl ?_
          refine kw_il dX12_chain_61 hu (by first | rfl | assumption) (s) rfl (by omega) rfl ?_
          rw [m7_, e7]
          refine kv_iconst dX12_chain_62 2 ki_2 ?_
          refine kv_irem dX12_chain_63 (by decide) ?_
          rw [r2]
          refine kv_iconst dX12_chain_64 1 ki_1 ?_
          refine kv_icmp_eq dX12_chain_65 79 (by decide) (fun h5 => ?_) (fun h5 => ?_)
          · have hod : ¬ kN (a 7) s % 2 = 0 := fun q => absurd h5 (by rw [q]; decide)
            rw [if_pos (Or.inl hod)] at hS
            refine kv_aload_n dX12_chain_79 rfl ?_
            refine kv_ldc dX12_chain_80 kX12_104 ?_
            refine kw_Vi [_] mX12_finding dX12_chain_82 lX12_84 wX12_finding kC12 hu rfl (by first | rfl | assumption) rfl rfl rfl (qX12_finding (by exact hu) 5 (by decide) (by decide) _ (by decide)) (by omega) ?_
            exact kv_iret dX12_chain_85 rfl (by rw [hS]; exact kOM.no hm hu rfl)
          · have hev : kN (a 7) s % 2 = 0 := by
              rcases Nat.mod_two_eq_zero_or_one (kN (a 7) s) with q | q
              · exact q
              · exact absurd (by rw [q]; rfl) h5
            refine kv_iload dX12_chain_68 rfl ?_
            refine kv_iconst dX12_chain_70 1 ki_1 ?_
            refine kv_bipush dX12_chain_71 6 kb_6 ?_
            refine kw_Si [_, _, _] mX12_within dX12_chain_73 lX12_78 wX12_within rfl rfl rfl (qX12_within (by exact hu) _ _ _) (by omega) ?_
            refine kw_bne dX12_chain_76 86 (by decide) (fun h6 => ?_) (fun h6 => ?_)
            · have n4 := kIn_y h6
              rw [if_neg (fun q => q.elim (fun z => z hev) n4)] at hS
              obtain ⟨m, em⟩ : ∃ m, m = kN (a 7) s / 2 := ⟨_, rfl⟩
              rw [← em] at n4 hS ⊢
              obtain ⟨mj, m1, m6, emj⟩ := kOut.b1 (n := 6) (by omega) n4
              have hmj : m = mj := (nI_eq (by omega) (by omega)).mp emj
              have hm6 : m ≤ 6 := by omega
              have hm1 : 1 ≤ m := by omega
              have hTb := kTn_b (D := (kDr (fun j => a 8 (24 * s + j)) (nI oo))) hm6 m 0 (fun _ => true)
              have hTb2 : 6 ^ m ≤ 6 ^ 6 := Nat.pow_le_pow_right (by decide) hm6
              unfold kchainV at hS
              refine kv_aload_n dX12_chain_86 rfl ?_
              refine kv_iconst dX12_chain_87 0 ki_0 ?_
              refine kw_pI dX12_chain_88 fX12_349 hu (by first | rfl | assumption) rfl rfl ?_
              refine kv_aload_n dX12_chain_91 rfl ?_
              refine kv_iload_n dX12_chain_92 rfl ?_
              refine kv_iload_n dX12_chain_93 rfl ?_
              refine kv_iload dX12_chain_94 rfl ?_
              refine kv_iconst dX12_chain_96 0 ki_0 ?_
              refine kv_iconst dX12_chain_97 0 ki_0 ?_
              refine kw_VQ [_, _, _, _, _] mX12_tryOrders dX12_chain_98 lX12_355 wX12_tryOrders kC12 hu rfl (by first | rfl | assumption) rfl rfl rfl (qX12_tryOrders hu m8_ s hs oo hoo rfl hm6 hm1 m [] 0 0 (kv_si u 413 22 0) (Nat.zero_add m) (by decide) (kEq.rf.si (Or.inr (Or.inr ⟨rfl, rfl⟩))) (fun j hj => absurd hj (Nat.not_lt_zero j)) (fun j hj => absurd hj (Nat.not_lt_zero j)) (kv_si_s _ _ _ _) (by rw [Nat.zero_add]; exact Nat.le_trans (kTn_b hm6 m 0 _) (by omega))) (by omega) (fun _ v1 q1 => ?_)
              obtain ⟨rfl, eO, -, y22a, yy, -⟩ := q1
              have y22 : v1.2.1 413 22 = nI (kTn (kDr (fun j => a 8 (24 * s + j)) (nI oo)) m m 0 (fun _ => true)) := y22a.trans (congrArg nI (Nat.zero_add _))
              have y27 : 0 < kTn (kDr (fun j => a 8 (24 * s + j)) (nI oo)) m m 0 (fun _ => true) → ∀ j, j < m → v1.2.1 427 j = nI ((kPth (kDr (fun j => a 8 (24 * s + j)) (nI oo)) m).getD j 0) := fun q j hj => yy ⟨rfl, q⟩ j hj
              have e1 : kEq kSM u v1 := eO.wk (fun a k q => by unfold kSO at q; unfold kSM; omega)
              have hv1 := e1.wd hu
              refine kv_iload_n dX12_chain_101 rfl ?_
              refine kv_if_le dX12_chain_102 126 (by decide) (fun h7 => ?_) (fun h7 => ?_)
              · have hp0 : p2 = 0 := by
                  obtain ⟨pn, hpn, rfl⟩ := nI_of n3
                  rw [show pn = 0 by have := (nI_leI (b := 0) hpn (by omega)).mp h7; omega]
                  rfl
                refine kv_iload_n dX12_chain_126 rfl ?_
                refine kv_if_ne dX12_chain_127 137 (by decide) (fun h8 => ?_) (fun h8 => ?_)
                · exact absurd hp0 h8
                · rw [if_pos h8] at hS
                  refine kv_aload_n dX12_chain_130 rfl ?_
                  refine kw_gI dX12_chain_131 fX12_349 hv1 (by first | rfl | assumption) rfl rfl ?_
                  rw [y22]
                  refine kv_goto dX12_chain_134 145 (by decide) ?_
                  exact kv_iret dX12_chain_145 rfl (by rw [hS]; exact kOM.id hm hu e1 rfl)
              · have hp0 : ¬ p2 = 0 := fun q => h7 (by rw [q]; exact Int32.le_refl _)
                rw [if_neg hp0] at hS
                refine kv_aload_n dX12_chain_105 rfl ?_
                refine kw_gI dX12_chain_106 fX12_349 hv1 (by first | rfl | assumption) rfl rfl ?_
                rw [y22]
                refine kv_if_eq dX12_chain_109 118 (by decide) (fun h9 => ?_) (fun h9 => ?_)
                · have hz : kTn (kDr (fun j => a 8 (24 * s + j)) (nI oo)) m m 0 (fun _ => true) = 0 := (nI_eq (b := 0) (by omega) (by omega)).mp h9
                  rw [if_pos (Or.inl hz)] at hS
                  refine kv_aload_n dX12_chain_118 rfl ?_
                  refine kv_ldcw dX12_chain_119 kX12_287 ?_
                  refine kw_Vi [_] mX12_finding dX12_chain_122 lX12_84 wX12_finding kC12 hv1 rfl (by first | rfl | assumption) rfl rfl rfl (qX12_finding (by exact hv1) 2 (by decide) (by decide) _ (by decide)) (by omega) ?_
                  exact kv_iret dX12_chain_125 rfl (by rw [hS]; exact kOM.no_ hm hu e1 rfl)
                · have hz : ¬ kTn (kDr (fun j => a 8 (24 * s + j)) (nI oo)) m m 0 (fun _ => true) = 0 := fun q => h9 (by rw [q]; rfl)
                  refine kv_iload_n dX12_chain_112 rfl ?_
                  refine kv_iload dX12_chain_113 rfl ?_
                  refine kv_icmp_le dX12_chain_115 126 (by decide) (fun h10 => ?_) (fun h10 => ?_)
                  · rw [if_neg (fun q => q.elim hz (fun z => z h10))] at hS
                    obtain ⟨pn, hpn, rfl⟩ := nI_of n3
                    have hpm : pn ≤ m := (nI_leI hpn (by omega)).mp h10
                    have hp1 : 1 ≤ pn := Nat.pos_of_ne_zero (fun q => hp0 (by rw [q]; rfl))
                    rw [nI_clamp hpn] at hS
                    refine kv_iload_n dX12_chain_126 rfl ?_
                    refine kv_if_ne dX12_chain_127 137 (by decide) (fun h11 => ?_) (fun h11 => ?_)
                    · refine kv_aload_n dX12_chain_137 rfl ?_
                      refine kw_gR dX12_chain_138 fX12_59 hv1 (by first | rfl | assumption) rfl rfl (by first | rfl | assumption) ?_
                      refine kv_iload_n dX12_chain_141 rfl ?_
                      refine kv_iconst dX12_chain_142 1 ki_1 ?_
                      refine kv_isub dX12_chain_143 ?_
                      refine kw_il dX12_chain_144 hv1 (by first | rfl | assumption) (pn - 1) (kn_sub rfl (show (1 : Int32) = nI 1 from rfl) hp1) (by omega) rfl ?_
                      rw [y27 (by omega) _ (by omega)]
                      exact kv_iret dX12_chain_145 rfl (by rw [hS]; exact kOM.id hm hu e1 rfl)
                    · exact absurd h11 (by first | exact hp0 | exact hp0c)
                  · rw [if_pos (Or.inr h10)] at hS
                    refine kv_aload_n dX12_chain_118 rfl ?_
                    refine kv_ldcw dX12_chain_119 kX12_287 ?_
                    refine kw_Vi [_] mX12_finding dX12_chain_122 lX12_84 wX12_finding kC12 hv1 rfl (by first | rfl | assumption) rfl rfl rfl (qX12_finding (by exact hv1) 2 (by decide) (by decide) _ (by decide)) (by omega) ?_
                    exact kv_iret dX12_chain_125 rfl (by rw [hS]; exact kOM.no_ hm hu e1 rfl)
            · rw [if_pos (Or.inr (kIn_n h6))] at hS
              refine kv_aload_n dX12_chain_79 rfl ?_
              refine kv_ldc dX12_chain_80 kX12_104 ?_
              refine kw_Vi [_] mX12_finding dX12_chain_82 lX12_84 wX12_finding kC12 hu rfl (by first | rfl | assumption) rfl rfl rfl (qX12_finding (by exact hu) 5 (by decide) (by decide) _ (by decide)) (by omega) ?_
              exact kv_iret dX12_chain_85 rfl (by rw [hS]; exact kOM.no hm hu rfl)
        · rw [if_pos h4] at hS
          refine kv_aload_n dX12_chain_38 rfl ?_
          refine kv_ldcw dX12_chain_39 kX12_287 ?_
          refine kw_Vi [_] mX12_finding dX12_chain_42 lX12_84 wX12_finding kC12 hu rfl (by first | rfl | assumption) rfl rfl rfl (qX12_finding (by exact hu) 2 (by decide) (by decide) _ (by decide)) (by omega) ?_
          exact kv_iret dX12_chain_45 rfl (by rw [hS]; exact kOM.no hm hu rfl)
      · have hS : kchain a p0 p1 p2 = (-1000001, kF a 1) := if_pos (Or.inr (Or.inr (Int32.not_le.mp h3)))
        refine kv_aload_n dX12_chain_22 rfl ?_
        refine kv_ldc dX12_chain_23 kX12_83 ?_
        refine kw_Vi [_] mX12_finding dX12_chain_25 lX12_84 wX12_finding kC12 hu rfl (by first | rfl | assumption) rfl rfl rfl (qX12_finding (by exact hu) 1 (by decide) (by decide) _ (by decide)) (by omega) ?_
        exact kv_iret dX12_chain_28 rfl (by rw [hS]; exact kOM.no hm hu rfl)

theorem kchain_ok {a : KA} (ho : kOk a) (p0 p1 p2 : Int32) : kOk (kchain a p0 p1 p2).2 := by
  unfold kchain
  split
  · exact ho.fnd 1
  · split
    · exact ho.fnd 2
    · split
      · exact ho.fnd 5
      · unfold kchainV
        split
        · exact ho
        · split
          · exact ho.fnd 2
          · exact ho
