/-! move -/
theorem kLack_n {p n : Int32} {L : Nat} (hL : L ≤ 24) (h : ¬ kLack p n (nI L)) : ∃ i m, p = nI i ∧ n = nI m ∧ i + m ≤ L := by
  obtain ⟨i, hi, rfl⟩ := nI_of (fun q => h (Or.inl q))
  obtain ⟨m, hm, rfl⟩ := nI_of (fun q => h (Or.inr (Or.inl q)))
  have h1 : m ≤ L := (nI_leI hm (by omega)).mp (Classical.byContradiction fun q => h (Or.inr (Or.inr (Or.inl q))))
  have h2 : nI i ≤ nI L - nI m := Classical.byContradiction fun q => h (Or.inr (Or.inr (Or.inr q)))
  rw [kn_sub rfl rfl h1] at h2
  have h3 : i ≤ L - m := (nI_leI hi (by omega)).mp h2
  exact ⟨i, m, rfl, rfl, by omega⟩
theorem kLack_l {i m L : Nat} (hi : i < 2147483648) (hm : m < 2147483648) (hL : L ≤ 24) : 0 < lg_cmp ((nI i).toInt64 + (nI m).toInt64) (nI L).toInt64 ↔ kLack (nI i) (nI m) (nI L) := by
  rw [lg_cmp_gt, nI_l hi, nI_l hm, nI_l (by omega), lN_add, Int64.lt_iff_toInt_lt, show (lN L).toInt = L from Int64.toInt_ofNat_of_lt (by omega), show (lN (i + m)).toInt = ((i + m : Nat) : Int) from Int64.toInt_ofNat_of_lt (by omega)]
  constructor
  · intro h
    by_cases q : m ≤ L
    · refine Or.inr (Or.inr (Or.inr (fun z => ?_)))
      rw [kn_sub rfl rfl q] at z
      have := (nI_leI hi (by omega)).mp z
      omega
    · exact Or.inr (Or.inr (Or.inl (fun z => q ((nI_leI hm (by omega)).mp z))))
  · intro h
    refine Classical.byContradiction fun q => ?_
    have h4 : i + m ≤ L := by omega
    rcases h with h | h | h | h
    · exact nI_nlt (b := 0) (Nat.zero_le i) hi h
    · exact nI_nlt (b := 0) (Nat.zero_le m) hm h
    · exact h (nI_le (by omega) (by omega))
    · exact h (by rw [kn_sub rfl rfl (by omega)]; exact nI_le (by omega) (by omega))
set_option maxRecDepth 20000 in
set_option maxHeartbeats 4000000 in
theorem qX6_lacks {w : KW} {l : Launch} {u : KMem} (hu : kWd u) (s : Nat) (hs : s < 4) {L : Int32} (hl : u.2.1 (401 + 3 * s) 2 = L) (p0 p1 : Int32) : KC w l mX6_lacks 0 0 0 [.ref (401 + 3 * s), .int p0, .int p1] u (kq (some (.int (if kLack p0 p1 L then 1 else 0))) u) := by
  refine KC.of (ls := [_, _, _]) rfl rfl (Nat.le_of_ble_eq_true rfl) ?_
  have ks := ks_sheet s (by omega)
  have ks1 := ks.1
  have ks2 := ks.2.1
  have ks4 := ks.2.2.2.1
  have ks6 := ks.2.2.2.2.2
  refine kv_iload_n dX6_lacks_0 rfl ?_
  refine kv_if_lt dX6_lacks_1 26 (by decide) (fun h1 => ?_) (fun h1 => ?_)
  · have hy : kLack p0 p1 L := Or.inl h1
    refine kv_iconst dX6_lacks_26 1 ki_1 ?_
    refine kv_goto dX6_lacks_27 31 (by decide) ?_
    exact kv_zret dX6_lacks_31 rfl kv_z1 ⟨by first | rw [if_pos hy] | rw [if_neg hy], rfl⟩
  · have y1 := h1
    refine kv_iload_n dX6_lacks_4 rfl ?_
    refine kv_if_lt dX6_lacks_5 26 (by decide) (fun h2 => ?_) (fun h2 => ?_)
    · have hy : kLack p0 p1 L := Or.inr (Or.inl h2)
      refine kv_iconst dX6_lacks_26 1 ki_1 ?_
      refine kv_goto dX6_lacks_27 31 (by decide) ?_
      exact kv_zret dX6_lacks_31 rfl kv_z1 ⟨by first | rw [if_pos hy] | rw [if_neg hy], rfl⟩
    · have y2 := h2
      refine kv_iload_n dX6_lacks_8 rfl ?_
      refine kv_aload_n dX6_lacks_9 rfl ?_
      refine kw_gI dX6_lacks_10 fX6_22 hu (by first | rfl | assumption) rfl rfl ?_
      rw [hl]
      refine kv_icmp_gt dX6_lacks_13 26 (by decide) (fun h3 => ?_) (fun h3 => ?_)
      · have hy : kLack p0 p1 L := Or.inr (Or.inr (Or.inl (Int32.not_le.mpr h3)))
        refine kv_iconst dX6_lacks_26 1 ki_1 ?_
        refine kv_goto dX6_lacks_27 31 (by decide) ?_
        exact kv_zret dX6_lacks_31 rfl kv_z1 ⟨by first | rw [if_pos hy] | rw [if_neg hy], rfl⟩
      · have y3 := h3
        refine kv_iload_n dX6_lacks_16 rfl ?_
        refine kv_aload_n dX6_lacks_17 rfl ?_
        refine kw_gI dX6_lacks_18 fX6_22 hu (by first | rfl | assumption) rfl rfl ?_
        rw [hl]
        refine kv_iload_n dX6_lacks_21 rfl ?_
        refine kv_isub dX6_lacks_22 ?_
        refine kv_icmp_le dX6_lacks_23 30 (by decide) (fun h4 => ?_) (fun h4 => ?_)
        · have hy : ¬ kLack p0 p1 L := by
            rintro (q | q | q | q)
            · exact y1 q
            · exact y2 q
            · exact y3 (Int32.not_le.mp q)
            · exact q h4
          refine kv_iconst dX6_lacks_30 0 ki_0 ?_
          exact kv_zret dX6_lacks_31 rfl kv_z0 ⟨by first | rw [if_pos hy] | rw [if_neg hy], rfl⟩
        · have hy : kLack p0 p1 L := Or.inr (Or.inr (Or.inr h4))
          refine kv_iconst dX6_lacks_26 1 ki_1 ?_
          refine kv_goto dX6_lacks_27 31 (by decide) ?_
          exact kv_zret dX6_lacks_31 rfl kv_z1 ⟨by first | rw [if_pos hy] | rw [if_neg hy], rfl⟩

set_option maxRecDepth 20000 in
set_option maxHeartbeats 4000000 in
theorem qX11_move {w : KW} {l : Launch} {u : KMem} (hu : kWd u) {a : KA} (hx : kRX a u) (ho : kOk a) (p0 p1 p2 p3 p4 : Int32) : KC w l mX11_move 2 0 0 [.ref 0, .int p0, .int p1, .int p2, .int p3, .int p4] u (kOX u (kmove a p0 p1 p2 p3 p4).1 (kmove a p0 p1 p2 p3 p4).2) := by
  have hr := hx.1
  have hg := ho.1
  have hx20 := (hg.cnt (k := 2) rfl).2
  have hc30 := (hg.cnt (k := 0) rfl).2
  have ht10 := (hg.cnt (k := 3) rfl).2
  have he40 := (hg.cnt (k := 4) rfl).2
  have hs16 := hg.cnt (k := 1) rfl
  refine KC.of (ls := [_, _, _, _, _, _, _, _]) rfl rfl (Nat.le_of_ble_eq_true rfl) ?_
  refine kv_iload_n dX11_move_0 rfl ?_
  refine kv_iconst dX11_move_1 0 ki_0 ?_
  refine kv_iconst dX11_move_2 3 ki_3 ?_
  refine kw_Si [_, _, _] mX11_outside dX11_move_3 lX11_69 wX11_outside rfl rfl rfl (qX11_outside (by exact hu) _ _ _) (by decide) ?_
  refine kw_bne dX11_move_6 18 (by decide) (fun h1 => ?_) (fun h1 => ?_)
  · have hS : kmove a p0 p1 p2 p3 p4 = (-1000001, kF a 1) := if_pos (Or.inl h1)
    refine kv_aload_n dX11_move_18 rfl ?_
    refine kv_ldc dX11_move_19 kX11_74 ?_
    refine kw_Vi [_] mX11_refuse dX11_move_21 lX11_75 wX11_refuse kC11 hu rfl (by first | rfl | assumption) rfl rfl rfl (qX11_refuse (by exact hu) 1 (by decide) (by decide) _ (by decide)) (by decide) ?_
    exact kv_iret dX11_move_24 rfl (by rw [hS]; exact kOX.no hx ho hu (by decide) rfl)
  · have n1 : ¬ kOut p0 0 3 := h1
    refine kv_iload_n dX11_move_9 rfl ?_
    refine kv_iconst dX11_move_10 0 ki_0 ?_
    refine kv_iconst dX11_move_11 3 ki_3 ?_
    refine kw_Si [_, _, _] mX11_outside dX11_move_12 lX11_69 wX11_outside rfl rfl rfl (qX11_outside (by exact hu) _ _ _) (by decide) ?_
    refine kw_beq dX11_move_15 25 (by decide) (fun h2 => ?_) (fun h2 => ?_)
    · have n2 : ¬ kOut p2 0 3 := h2
      have hS : kmove a p0 p1 p2 p3 p4 = _ := if_neg (fun q => q.elim n1 n2)
      obtain ⟨s, hs3, rfl⟩ := kOut.bd (n := 3) (by omega) n1
      obtain ⟨o, ho3, rfl⟩ := kOut.bd (n := 3) (by omega) n2
      have hs : s < 4 := by omega
      have ho4 : o < 4 := by omega
      rw [nI_clamp (by omega), nI_clamp (by omega)] at hS
      have h7s := (ho.2.2.2 s hs).1.n (by omega)
      have h7o := (ho.2.2.2 o ho4).1.n (by omega)
      have ks := ks_sheet s (by omega)
      have ks1 := ks.1
      have ks2 := ks.2.1
      have ks4 := ks.2.2.2.1
      have ks6 := ks.2.2.2.2.2
      have ko := ks_sheet o (by omega)
      have ko1 := ko.1
      have ko2 := ko.2.1
      have ko4 := ko.2.2.2.1
      have ko6 := ko.2.2.2.2.2
      refine kv_aload_n dX11_move_25 rfl ?_
      refine kw_gR dX11_move_26 fX11_60 hu (by first | rfl | assumption) rfl rfl (by first | rfl | assumption) ?_
      refine kv_iload_n dX11_move_29 rfl ?_
      refine kw_al (t := 4) (n := 4) dX11_move_30 hu rfl rfl (s) rfl (by omega) rfl (by first | rfl | assumption) ?_
      refine kv_astore (ls2 := [_, _, _, _, _, _, _, _]) dX11_move_31 rfl rfl rfl rfl ?_
      refine kv_aload_n dX11_move_33 rfl ?_
      refine kw_gR dX11_move_34 fX11_60 hu (by first | rfl | assumption) rfl rfl (by first | rfl | assumption) ?_
      refine kv_iload_n dX11_move_37 rfl ?_
      refine kw_al (t := 4) (n := 4) dX11_move_38 hu rfl rfl (o) rfl (by omega) rfl (by first | rfl | assumption) ?_
      refine kv_astore (ls2 := [_, _, _, _, _, _, _, _]) dX11_move_39 rfl rfl rfl rfl ?_
      refine kv_aload dX11_move_41 rfl ?_
      refine kw_gI dX11_move_43 fX11_359 hu (by first | rfl | assumption) rfl rfl ?_
      rw [(hx.2.2.2.2.2.2 s (by omega)).1]
      refine kv_if_eq dX11_move_46 57 (by decide) (fun h3 => ?_) (fun h3 => ?_)
      · rw [if_pos (Or.inl h3)] at hS
        refine kv_aload_n dX11_move_57 rfl ?_
        refine kv_ldc dX11_move_58 kX11_248 ?_
        refine kw_Vi [_] mX11_refuse dX11_move_60 lX11_75 wX11_refuse kC11 hu rfl (by first | rfl | assumption) rfl rfl rfl (qX11_refuse (by exact hu) 2 (by decide) (by decide) _ (by decide)) (by decide) ?_
        exact kv_iret dX11_move_63 rfl (by rw [hS]; exact kOX.no hx ho hu (by decide) rfl)
      · have m1 := h3
        refine kv_aload dX11_move_49 rfl ?_
        refine kw_gI dX11_move_51 fX11_359 hu (by first | rfl | assumption) rfl rfl ?_
        rw [(hx.2.2.2.2.2.2 o (by omega)).1]
        refine kv_if_ne dX11_move_54 64 (by decide) (fun h4 => ?_) (fun h4 => ?_)
        · rw [if_neg (fun q => q.elim m1 h4)] at hS
          refine kv_aload dX11_move_64 rfl ?_
          refine kw_gI dX11_move_66 fX11_359 hu (by first | rfl | assumption) rfl rfl ?_
          rw [(hx.2.2.2.2.2.2 s (by omega)).1]
          refine kv_aload dX11_move_69 rfl ?_
          refine kw_gI dX11_move_71 fX11_359 hu (by first | rfl | assumption) rfl rfl ?_
          rw [(hx.2.2.2.2.2.2 o (by omega)).1]
          refine kv_icmp_eq dX11_move_74 84 (by decide) (fun h5 => ?_) (fun h5 => ?_)
          · rw [if_neg (fun q => q h5)] at hS
            refine kv_aload dX11_move_84 rfl ?_
            refine kv_iload_n dX11_move_86 rfl ?_
            refine kv_iload dX11_move_87 rfl ?_
            refine kw_Vi [_, _] mX6_lacks dX11_move_89 lX11_396 wX6_lacks kC6 hu rfl (by first | rfl | assumption) rfl rfl rfl (qX6_lacks (by exact hu) s hs (hx.2.2.2.2.2.2 s (by omega)).2.1 _ _) (by decide) ?_
            refine kw_bne dX11_move_92 107 (by decide) (fun h6 => ?_) (fun h6 => ?_)
            · rw [if_pos (Or.inl h6)] at hS
              refine kv_aload_n dX11_move_107 rfl ?_
              refine kv_ldc dX11_move_108 kX11_74 ?_
              refine kw_Vi [_] mX11_refuse dX11_move_110 lX11_75 wX11_refuse kC11 hu rfl (by first | rfl | assumption) rfl rfl rfl (qX11_refuse (by exact hu) 1 (by decide) (by decide) _ (by decide)) (by decide) ?_
              exact kv_iret dX11_move_113 rfl (by rw [hS]; exact kOX.no hx ho hu (by decide) rfl)
            · have m2 := h6
              refine kv_aload dX11_move_95 rfl ?_
              refine kv_iload dX11_move_97 rfl ?_
              refine kv_iload dX11_move_99 rfl ?_
              refine kw_Vi [_, _] mX6_lacks dX11_move_101 lX11_396 wX6_lacks kC6 hu rfl (by first | rfl | assumption) rfl rfl rfl (qX6_lacks (by exact hu) o ho4 (hx.2.2.2.2.2.2 o (by omega)).2.1 _ _) (by decide) ?_
              refine kw_beq dX11_move_104 114 (by decide) (fun h7 => ?_) (fun h7 => ?_)
              · have hL : ¬ (kLack p1 p4 (a 7 s) ∨ kLack p3 p4 (a 7 o)) := fun q => q.elim m2 h7
                rw [if_neg hL] at hS
                rw [h7s.1, h7o.1] at hL
                obtain ⟨i, m, rfl, rfl, him⟩ := kLack_n h7s.2 (fun q => hL (Or.inl q))
                obtain ⟨j, m2, rfl, em, hjm⟩ := kLack_n h7o.2 (fun q => hL (Or.inr q))
                have hmm : m = m2 := (nI_eq (by omega) (by omega)).mp em
                rw [nI_clamp (by omega), nI_clamp (by omega), nI_clamp (by omega)] at hS
                refine kv_aload dX11_move_114 rfl ?_
                refine kw_gR dX11_move_116 fX11_390 hu (by first | rfl | assumption) rfl rfl (by first | rfl | assumption) ?_
                refine kv_iload_n dX11_move_119 rfl ?_
                refine kv_aload dX11_move_120 rfl ?_
                refine kw_gR dX11_move_122 fX11_390 hu (by first | rfl | assumption) rfl rfl (by first | rfl | assumption) ?_
                refine kv_iload dX11_move_125 rfl ?_
                refine kv_iload dX11_move_127 rfl ?_
                refine kw_copy dX11_move_129 lX11_399 hu (by first | rfl | assumption) (by first | rfl | assumption) rfl rfl rfl (by omega) (by omega) rfl rfl rfl rfl rfl (by omega) ?_
                refine kv_iload dX11_move_132 rfl ?_
                exact kv_iret dX11_move_134 rfl (by
                    rw [hS]
                    dsimp only
                    refine ⟨rfl, hu, fun b hb => funext fun k => if_neg (by omega), hx.sh ho (fun j hj => kUp1_n (by omega)) (fun b k hb => if_neg (by omega)) (fun t ht => ?_)⟩
                    have hi7 := hx.2.2.2.2.2.2 t ht
                    have his := hx.2.2.2.2.2.2 s hs
                    refine ⟨?_, ?_, fun k hk => ?_⟩
                    · rw [kUp1_n (by omega)]; exact (if_neg (by omega)).trans hi7.1
                    · rw [kUp1_n (by omega)]; exact (if_neg (by omega)).trans hi7.2.1
                    · rw [kUp1_s]
                      unfold kMv
                      by_cases q : t = o
                      · rw [q] at hi7 ⊢
                        by_cases z : j ≤ k ∧ k < j + m
                        · rw [if_pos (by omega), show 24 * s + i + (24 * o + k - (24 * o + j)) = 24 * s + (i + (k - j)) by omega]
                          exact (if_pos rfl).trans ((if_pos z).trans (his.2.2 _ (by omega)))
                        · rw [if_neg (by omega)]
                          exact (if_pos rfl).trans ((if_neg z).trans (hi7.2.2 k hk))
                      · rw [if_neg (by omega)]
                        exact (if_neg (by omega)).trans (hi7.2.2 k hk))
              · rw [if_pos (Or.inr h7)] at hS
                refine kv_aload_n dX11_move_107 rfl ?_
                refine kv_ldc dX11_move_108 kX11_74 ?_
                refine kw_Vi [_] mX11_refuse dX11_move_110 lX11_75 wX11_refuse kC11 hu rfl (by first | rfl | assumption) rfl rfl rfl (qX11_refuse (by exact hu) 1 (by decide) (by decide) _ (by decide)) (by decide) ?_
                exact kv_iret dX11_move_113 rfl (by rw [hS]; exact kOX.no hx ho hu (by decide) rfl)
          · rw [if_pos h5] at hS
            refine kv_aload_n dX11_move_77 rfl ?_
            refine kv_ldc dX11_move_78 kX11_133 ?_
            refine kw_Vi [_] mX11_refuse dX11_move_80 lX11_75 wX11_refuse kC11 hu rfl (by first | rfl | assumption) rfl rfl rfl (qX11_refuse (by exact hu) 5 (by decide) (by decide) _ (by decide)) (by decide) ?_
            exact kv_iret dX11_move_83 rfl (by rw [hS]; exact kOX.no hx ho hu (by decide) rfl)
        · rw [if_pos (Or.inr h4)] at hS
          refine kv_aload_n dX11_move_57 rfl ?_
          refine kv_ldc dX11_move_58 kX11_248 ?_
          refine kw_Vi [_] mX11_refuse dX11_move_60 lX11_75 wX11_refuse kC11 hu rfl (by first | rfl | assumption) rfl rfl rfl (qX11_refuse (by exact hu) 2 (by decide) (by decide) _ (by decide)) (by decide) ?_
          exact kv_iret dX11_move_63 rfl (by rw [hS]; exact kOX.no hx ho hu (by decide) rfl)
    · have hS : kmove a p0 p1 p2 p3 p4 = (-1000001, kF a 1) := if_pos (Or.inr h2)
      refine kv_aload_n dX11_move_18 rfl ?_
      refine kv_ldc dX11_move_19 kX11_74 ?_
      refine kw_Vi [_] mX11_refuse dX11_move_21 lX11_75 wX11_refuse kC11 hu rfl (by first | rfl | assumption) rfl rfl rfl (qX11_refuse (by exact hu) 1 (by decide) (by decide) _ (by decide)) (by decide) ?_
      exact kv_iret dX11_move_24 rfl (by rw [hS]; exact kOX.no hx ho hu (by decide) rfl)

set_option maxRecDepth 20000 in
set_option maxHeartbeats 4000000 in
theorem qX12_move {w : KW} {l : Launch} {u : KMem} (hu : kWd u) {a : KA} (hm : kRM a u) (ho : kOk a) (p0 p1 p2 p3 p4 : Int32) : KC w l mX12_move 2 0 0 [.ref 413, .int p0, .int p1, .int p2, .int p3, .int p4] u (kOM u (kmove a p0 p1 p2 p3 p4).1 (kmove a p0 p1 p2 p3 p4).2) := by
  have eg := hm.1
  have hg := ho.1
  have hx20 := (hg.cnt (k := 2) rfl).2
  have hc30 := (hg.cnt (k := 0) rfl).2
  have ht10 := (hg.cnt (k := 3) rfl).2
  have he40 := (hg.cnt (k := 4) rfl).2
  have hs16 := hg.cnt (k := 1) rfl
  refine KC.of (ls := [_, _, _, _, _, _, _]) rfl rfl (Nat.le_of_ble_eq_true rfl) ?_
  refine kv_iload_n dX12_move_0 rfl ?_
  refine kw_Si [_] mX12_isSheet dX12_move_1 lX12_359 wX12_isSheet rfl rfl rfl (qX12_isSheet (by exact hu) _) (by decide) ?_
  refine kw_beq dX12_move_4 14 (by decide) (fun h1 => ?_) (fun h1 => ?_)
  · have hS : kmove a p0 p1 p2 p3 p4 = (-1000001, kF a 1) := if_pos (Or.inl (kIn_n h1))
    refine kv_aload_n dX12_move_14 rfl ?_
    refine kv_ldc dX12_move_15 kX12_83 ?_
    refine kw_Vi [_] mX12_finding dX12_move_17 lX12_84 wX12_finding kC12 hu rfl (by first | rfl | assumption) rfl rfl rfl (qX12_finding (by exact hu) 1 (by decide) (by decide) _ (by decide)) (by decide) ?_
    exact kv_iret dX12_move_20 rfl (by rw [hS]; exact kOM.no hm hu rfl)
  · have n1 : ¬ kOut p0 0 3 := kIn_y h1
    refine kv_iload_n dX12_move_7 rfl ?_
    refine kw_Si [_] mX12_isSheet dX12_move_8 lX12_359 wX12_isSheet rfl rfl rfl (qX12_isSheet (by exact hu) _) (by decide) ?_
    refine kw_bne dX12_move_11 21 (by decide) (fun h2 => ?_) (fun h2 => ?_)
    · have n2 : ¬ kOut p2 0 3 := kIn_y h2
      have hS : kmove a p0 p1 p2 p3 p4 = _ := if_neg (fun q => q.elim n1 n2)
      obtain ⟨s, hs3, rfl⟩ := kOut.bd (n := 3) (by omega) n1
      obtain ⟨o, ho3, rfl⟩ := kOut.bd (n := 3) (by omega) n2
      have hs : s < 4 := by omega
      have ho4 : o < 4 := by omega
      rw [nI_clamp (by omega), nI_clamp (by omega)] at hS
      have h7s := (ho.2.2.2 s hs).1.n (by omega)
      have h7o := (ho.2.2.2 o ho4).1.n (by omega)
      refine kv_aload_n dX12_move_21 rfl ?_
      refine kw_gR dX12_move_22 fX12_65 hu (by first | rfl | assumption) rfl rfl (by first | rfl | assumption) ?_
      refine kv_iload_n dX12_move_25 rfl ?_
      refine kw_il dX12_move_26 hu (by first | rfl | assumption) (s) rfl (by omega) rfl ?_
      rw [hm.2.2.2.2.2.2.1]
      refine kv_if_eq dX12_move_27 39 (by decide) (fun h3 => ?_) (fun h3 => ?_)
      · rw [if_pos (Or.inl h3)] at hS
        refine kv_aload_n dX12_move_39 rfl ?_
        refine kv_ldcw dX12_move_40 kX12_287 ?_
        refine kw_Vi [_] mX12_finding dX12_move_43 lX12_84 wX12_finding kC12 hu rfl (by first | rfl | assumption) rfl rfl rfl (qX12_finding (by exact hu) 2 (by decide) (by decide) _ (by decide)) (by decide) ?_
        exact kv_iret dX12_move_46 rfl (by rw [hS]; exact kOM.no hm hu rfl)
      · have m1 := h3
        refine kv_aload_n dX12_move_30 rfl ?_
        refine kw_gR dX12_move_31 fX12_65 hu (by first | rfl | assumption) rfl rfl (by first | rfl | assumption) ?_
        refine kv_iload_n dX12_move_34 rfl ?_
        refine kw_il dX12_move_35 hu (by first | rfl | assumption) (o) rfl (by omega) rfl ?_
        rw [hm.2.2.2.2.2.2.1]
        refine kv_if_ne dX12_move_36 47 (by decide) (fun h4 => ?_) (fun h4 => ?_)
        · rw [if_neg (fun q => q.elim m1 h4)] at hS
          refine kv_aload_n dX12_move_47 rfl ?_
          refine kw_gR dX12_move_48 fX12_65 hu (by first | rfl | assumption) rfl rfl (by first | rfl | assumption) ?_
          refine kv_iload_n dX12_move_51 rfl ?_
          refine kw_il dX12_move_52 hu (by first | rfl | assumption) (s) rfl (by omega) rfl ?_
          rw [hm.2.2.2.2.2.2.1]
          refine kv_aload_n dX12_move_53 rfl ?_
          refine kw_gR dX12_move_54 fX12_65 hu (by first | rfl | assumption) rfl rfl (by first | rfl | assumption) ?_
          refine kv_iload_n dX12_move_57 rfl ?_
          refine kw_il dX12_move_58 hu (by first | rfl | assumption) (o) rfl (by omega) rfl ?_
          rw [hm.2.2.2.2.2.2.1]
          refine kv_icmp_eq dX12_move_59 69 (by decide) (fun h5 => ?_) (fun h5 => ?_)
          · rw [if_neg (fun q => q h5)] at hS
            refine kv_iload dX12_move_69 rfl ?_
            refine kv_if_lt dX12_move_71 118 (by decide) (fun h6 => ?_) (fun h6 => ?_)
            · rw [if_pos (Or.inl (Or.inr (Or.inl h6)))] at hS
              refine kv_aload_n dX12_move_118 rfl ?_
              refine kv_ldc dX12_move_119 kX12_83 ?_
              refine kw_Vi [_] mX12_finding dX12_move_121 lX12_84 wX12_finding kC12 hu rfl (by first | rfl | assumption) rfl rfl rfl (qX12_finding (by exact hu) 1 (by decide) (by decide) _ (by decide)) (by decide) ?_
              exact kv_iret dX12_move_124 rfl (by rw [hS]; exact kOM.no hm hu rfl)
            · obtain ⟨m, hm31, rfl⟩ := nI_of h6
              refine kv_iload_n dX12_move_74 rfl ?_
              refine kv_if_lt dX12_move_75 118 (by decide) (fun h7 => ?_) (fun h7 => ?_)
              · rw [if_pos (Or.inl (Or.inl h7))] at hS
                refine kv_aload_n dX12_move_118 rfl ?_
                refine kv_ldc dX12_move_119 kX12_83 ?_
                refine kw_Vi [_] mX12_finding dX12_move_121 lX12_84 wX12_finding kC12 hu rfl (by first | rfl | assumption) rfl rfl rfl (qX12_finding (by exact hu) 1 (by decide) (by decide) _ (by decide)) (by decide) ?_
                exact kv_iret dX12_move_124 rfl (by rw [hS]; exact kOM.no hm hu rfl)
              · obtain ⟨i, hi31, rfl⟩ := nI_of h7
                refine kv_iload dX12_move_78 rfl ?_
                refine kv_if_lt dX12_move_80 118 (by decide) (fun h8 => ?_) (fun h8 => ?_)
                · rw [if_pos (Or.inr (Or.inl h8))] at hS
                  refine kv_aload_n dX12_move_118 rfl ?_
                  refine kv_ldc dX12_move_119 kX12_83 ?_
                  refine kw_Vi [_] mX12_finding dX12_move_121 lX12_84 wX12_finding kC12 hu rfl (by first | rfl | assumption) rfl rfl rfl (qX12_finding (by exact hu) 1 (by decide) (by decide) _ (by decide)) (by decide) ?_
                  exact kv_iret dX12_move_124 rfl (by rw [hS]; exact kOM.no hm hu rfl)
                · obtain ⟨j, hj31, rfl⟩ := nI_of h8
                  refine kv_iload_n dX12_move_83 rfl ?_
                  refine kv_i2l dX12_move_84 ?_
                  refine kv_iload dX12_move_85 rfl ?_
                  refine kv_i2l dX12_move_87 ?_
                  refine kv_ladd dX12_move_88 ?_
                  refine kv_aload_n dX12_move_89 rfl ?_
                  refine kw_gR dX12_move_90 fX12_68 hu (by first | rfl | assumption) rfl rfl (by first | rfl | assumption) ?_
                  refine kv_iload_n dX12_move_93 rfl ?_
                  refine kw_il dX12_move_94 hu (by first | rfl | assumption) (s) rfl (by omega) rfl ?_
                  rw [hm.2.2.2.2.2.2.2.1]
                  refine kv_i2l dX12_move_95 ?_
                  refine kv_lcmp dX12_move_96 ?_
                  refine kv_if_gt dX12_move_97 118 (by decide) (fun h9 => ?_) (fun h9 => ?_)
                  · rw [if_pos (Or.inl (by rw [h7s.1]; exact (kLack_l hi31 hm31 h7s.2).mp (by rw [← h7s.1]; exact h9)))] at hS
                    refine kv_aload_n dX12_move_118 rfl ?_
                    refine kv_ldc dX12_move_119 kX12_83 ?_
                    refine kw_Vi [_] mX12_finding dX12_move_121 lX12_84 wX12_finding kC12 hu rfl (by first | rfl | assumption) rfl rfl rfl (qX12_finding (by exact hu) 1 (by decide) (by decide) _ (by decide)) (by decide) ?_
                    exact kv_iret dX12_move_124 rfl (by rw [hS]; exact kOM.no hm hu rfl)
                  · have m2 : ¬ kLack (nI i) (nI m) (a 7 s) := fun q => h9 (by rw [h7s.1]; exact (kLack_l hi31 hm31 h7s.2).mpr (by rw [← h7s.1]; exact q))
                    refine kv_iload dX12_move_100 rfl ?_
                    refine kv_i2l dX12_move_102 ?_
                    refine kv_iload dX12_move_103 rfl ?_
                    refine kv_i2l dX12_move_105 ?_
                    refine kv_ladd dX12_move_106 ?_
                    refine kv_aload_n dX12_move_107 rfl ?_
                    refine kw_gR dX12_move_108 fX12_68 hu (by first | rfl | assumption) rfl rfl (by first | rfl | assumption) ?_
                    refine kv_iload_n dX12_move_111 rfl ?_
                    refine kw_il dX12_move_112 hu (by first | rfl | assumption) (o) rfl (by omega) rfl ?_
                    rw [hm.2.2.2.2.2.2.2.1]
                    refine kv_i2l dX12_move_113 ?_
                    refine kv_lcmp dX12_move_114 ?_
                    refine kv_if_le dX12_move_115 125 (by decide) (fun h10 => ?_) (fun h10 => ?_)
                    · have m3 : ¬ kLack (nI j) (nI m) (a 7 o) := fun q => Int32.not_lt.mpr h10 (by rw [h7o.1]; exact (kLack_l hj31 hm31 h7o.2).mpr (by rw [← h7o.1]; exact q))
                      rw [if_neg (fun q => q.elim m2 m3)] at hS
                      rw [h7s.1] at m2
                      rw [h7o.1] at m3
                      obtain ⟨i2, m4, ei, em, him⟩ := kLack_n h7s.2 m2
                      obtain ⟨j2, m5, ej, em2, hjm⟩ := kLack_n h7o.2 m3
                      have q1 := (nI_eq hi31 (by omega)).mp ei
                      have q2 := (nI_eq hm31 (by omega)).mp em
                      have q3 := (nI_eq hj31 (by omega)).mp ej
                      have q4 := (nI_eq hm31 (by omega)).mp em2
                      rw [nI_clamp (by omega), nI_clamp (by omega), nI_clamp (by omega)] at hS
                      refine kv_iconst dX12_move_125 0 ki_0 ?_
                      refine kv_istore (ls2 := [_, _, _, _, _, _, _]) dX12_move_126 rfl rfl rfl rfl ?_
                      refine KV.loc (ls2 := [some (.ref 413), some (.int (nI s)), some (.int (nI i)), some (.int (nI o)), some (.int (nI j)), some (.int (nI m)), some (.int (nI (0)))]) ?_ (ksS rfl (ksS rfl (ksS rfl (ksS rfl (ksS rfl (ksS rfl (ksS rfl ksN)))))))
                      refine kn_loop (P := fun k => ∀ v : KMem, kWd v → (∀ b, b ≠ 432 → v.2.1 b = u.2.1 b) → (∀ t, t < k → v.2.1 432 t = a 8 (24 * s + i + t)) → KV w l mX12_move 2 0 0 128 [some (.ref 413), some (.int (nI s)), some (.int (nI i)), some (.int (nI o)), some (.int (nI j)), some (.int (nI m)), some (.int (nI k))] [] v (kOM u (kmove a (nI s) (nI i) (nI o) (nI j) (nI m)).1 (kmove a (nI s) (nI i) (nI o) (nI j) (nI m)).2)) (m) ?_ (fun k hk ih => ?_) u hu (fun b _ => rfl) (fun t ht => absurd ht (Nat.not_lt_zero t))
                      · intro v hv V hc
                        refine kv_iload dX12_move_128 rfl ?_
                        refine kv_iload dX12_move_130 rfl ?_
                        refine kv_icmp_ge dX12_move_132 162 (by decide) (fun h11 => ?_) (fun h11 => ?_)
                        · refine kv_iconst dX12_move_162 0 ki_0 ?_
                          refine kv_istore (ls2 := [_, _, _, _, _, _, _]) dX12_move_163 rfl rfl rfl rfl ?_
                          refine KV.loc (ls2 := [some (.ref 413), some (.int (nI s)), some (.int (nI i)), some (.int (nI o)), some (.int (nI j)), some (.int (nI m)), some (.int (nI (0)))]) ?_ (ksS rfl (ksS rfl (ksS rfl (ksS rfl (ksS rfl (ksS rfl (ksS rfl ksN)))))))
                          refine kn_loop (P := fun k => ∀ v : KMem, kWd v → (∀ b, b ≠ 431 → b ≠ 432 → v.2.1 b = u.2.1 b) → (∀ t, t < m → v.2.1 432 t = a 8 (24 * s + i + t)) → v.2.1 431 = kMv (a 8) (a 8) (24 * o + j) (24 * s + i) k → KV w l mX12_move 2 0 0 165 [some (.ref 413), some (.int (nI s)), some (.int (nI i)), some (.int (nI o)), some (.int (nI j)), some (.int (nI m)), some (.int (nI k))] [] v (kOM u (kmove a (nI s) (nI i) (nI o) (nI j) (nI m)).1 (kmove a (nI s) (nI i) (nI o) (nI j) (nI m)).2)) (m) ?_ (fun k hk ih => ?_) v hv (fun b _ h2 => V b h2) hc (by rw [kMv_0]; exact (V 431 (by omega)).trans hm.2.2.2.2.2.2.2.2.1)
                          · intro v hv V hc r8
                            refine kv_iload dX12_move_165 rfl ?_
                            refine kv_iload dX12_move_167 rfl ?_
                            refine kv_icmp_ge dX12_move_169 200 (by decide) (fun h12 => ?_) (fun h12 => ?_)
                            · refine kv_iload dX12_move_200 rfl ?_
                              exact kv_iret dX12_move_202 rfl (by rw [hS]; dsimp only; exact ⟨rfl, hv, fun b hb => V b (by omega) (by omega), hm.sh (fun j hj => kUp1_n (by omega)) (fun b q1 q2 q3 q4 q5 => V b q4 q5) (by rw [V 429 (by omega) (by omega), kUp1_n (by omega)]; exact hm.2.2.2.2.2.2.1) (by rw [V 430 (by omega) (by omega), kUp1_n (by omega)]; exact hm.2.2.2.2.2.2.2.1) (by rw [kUp1_s]; exact r8)⟩)
                            · exact absurd h12 (fun q => q (Int32.le_refl _))
                          · intro v hv V hc r8
                            refine kv_iload dX12_move_165 rfl ?_
                            refine kv_iload dX12_move_167 rfl ?_
                            refine kv_icmp_ge dX12_move_169 200 (by decide) (fun h13 => ?_) (fun h13 => ?_)
                            · exact absurd h13 (kn_ge hk (by omega))
                            · refine kv_aload_n dX12_move_172 rfl ?_
                              refine kw_gR dX12_move_173 fX12_71 hv (by first | rfl | assumption) rfl rfl (by first | rfl | assumption) ?_
                              refine kv_bipush dX12_move_176 24 kb_24 ?_
                              refine kv_iload_n dX12_move_178 rfl ?_
                              refine kv_imul dX12_move_179 ?_
                              refine kv_iload dX12_move_180 rfl ?_
                              refine kv_iadd dX12_move_182 ?_
                              refine kv_iload dX12_move_183 rfl ?_
                              refine kv_iadd dX12_move_185 ?_
                              refine kv_aload_n dX12_move_186 rfl ?_
                              refine kw_gR dX12_move_187 fX12_74 hv (by first | rfl | assumption) rfl rfl (by first | rfl | assumption) ?_
                              refine kv_iload dX12_move_190 rfl ?_
                              refine kw_il dX12_move_192 hv (by first | rfl | assumption) (k) rfl (by omega) rfl ?_
                              rw [hc k hk]
                              refine kw_is dX12_move_193 hv (by first | rfl | assumption) (24 * o + j + k) (kn_add (kn_add (kn_mul (show (24 : Int32) = nI 24 from rfl) rfl) rfl) rfl) (by omega) rfl ?_
                              refine kv_iinc (ls2 := [_, _, _, _, _, _, _]) dX12_move_194 (nI (k + 1)) rfl (kv_inc1 k) rfl rfl rfl rfl ?_
                              refine kv_goto dX12_move_197 165 (by decide) ?_
                              exact KV.loc (ih _ hv (fun b h1 h2 => by rw [kv_si_row h1]; exact V b h1 h2) (fun t ht => by rw [kv_si_a (by omega)]; exact hc t ht) (by rw [kv_si_set, r8, kMv_step])) (ksS rfl (ksS rfl (ksS rfl (ksS rfl (ksS rfl (ksS rfl (ksS rfl ksN)))))))
                        · exact absurd h11 (fun q => q (Int32.le_refl _))
                      · intro v hv V hc
                        have h8 : v.2.1 431 = a 8 := (V 431 (by omega)).trans hm.2.2.2.2.2.2.2.2.1
                        refine kv_iload dX12_move_128 rfl ?_
                        refine kv_iload dX12_move_130 rfl ?_
                        refine kv_icmp_ge dX12_move_132 162 (by decide) (fun h14 => ?_) (fun h14 => ?_)
                        · exact absurd h14 (kn_ge hk (by omega))
                        · refine kv_aload_n dX12_move_135 rfl ?_
                          refine kw_gR dX12_move_136 fX12_74 hv (by first | rfl | assumption) rfl rfl (by first | rfl | assumption) ?_
                          refine kv_iload dX12_move_139 rfl ?_
                          refine kv_aload_n dX12_move_141 rfl ?_
                          refine kw_gR dX12_move_142 fX12_71 hv (by first | rfl | assumption) rfl rfl (by first | rfl | assumption) ?_
                          refine kv_bipush dX12_move_145 24 kb_24 ?_
                          refine kv_iload_n dX12_move_147 rfl ?_
                          refine kv_imul dX12_move_148 ?_
                          refine kv_iload_n dX12_move_149 rfl ?_
                          refine kv_iadd dX12_move_150 ?_
                          refine kv_iload dX12_move_151 rfl ?_
                          refine kv_iadd dX12_move_153 ?_
                          refine kw_il dX12_move_154 hv (by first | rfl | assumption) (24 * s + i + k) (kn_add (kn_add (kn_mul (show (24 : Int32) = nI 24 from rfl) rfl) rfl) rfl) (by omega) rfl ?_
                          rw [h8]
                          refine kw_is dX12_move_155 hv (by first | rfl | assumption) (k) rfl (by omega) rfl ?_
                          refine kv_iinc (ls2 := [_, _, _, _, _, _, _]) dX12_move_156 (nI (k + 1)) rfl (kv_inc1 k) rfl rfl rfl rfl ?_
                          refine kv_goto dX12_move_159 128 (by decide) ?_
                          refine KV.loc (ih _ hv (fun b hb => by rw [kv_si_row hb]; exact V b hb) (fun t ht => ?_)) (ksS rfl (ksS rfl (ksS rfl (ksS rfl (ksS rfl (ksS rfl (ksS rfl ksN)))))))
                          by_cases q : t = k
                          · rw [q, kv_si_s]
                          · rw [kv_si_n (by omega)]; exact hc t (by omega)
                    · rw [if_pos (Or.inr (by rw [h7o.1]; exact (kLack_l hj31 hm31 h7o.2).mp (by rw [← h7o.1]; exact Int32.not_le.mp h10)))] at hS
                      refine kv_aload_n dX12_move_118 rfl ?_
                      refine kv_ldc dX12_move_119 kX12_83 ?_
                      refine kw_Vi [_] mX12_finding dX12_move_121 lX12_84 wX12_finding kC12 hu rfl (by first | rfl | assumption) rfl rfl rfl (qX12_finding (by exact hu) 1 (by decide) (by decide) _ (by decide)) (by decide) ?_
                      exact kv_iret dX12_move_124 rfl (by rw [hS]; exact kOM.no hm hu rfl)
          · rw [if_pos h5] at hS
            refine kv_aload_n dX12_move_62 rfl ?_
            refine kv_ldc dX12_move_63 kX12_104 ?_
            refine kw_Vi [_] mX12_finding dX12_move_65 lX12_84 wX12_finding kC12 hu rfl (by first | rfl | assumption) rfl rfl rfl (qX12_finding (by exact hu) 5 (by decide) (by decide) _ (by decide)) (by decide) ?_
            exact kv_iret dX12_move_68 rfl (by rw [hS]; exact kOM.no hm hu rfl)
        · rw [if_pos (Or.inr h4)] at hS
          refine kv_aload_n dX12_move_39 rfl ?_
          refine kv_ldcw dX12_move_40 kX12_287 ?_
          refine kw_Vi [_] mX12_finding dX12_move_43 lX12_84 wX12_finding kC12 hu rfl (by first | rfl | assumption) rfl rfl rfl (qX12_finding (by exact hu) 2 (by decide) (by decide) _ (by decide)) (by decide) ?_
          exact kv_iret dX12_move_46 rfl (by rw [hS]; exact kOM.no hm hu rfl)
    · have hS : kmove a p0 p1 p2 p3 p4 = (-1000001, kF a 1) := if_pos (Or.inr (kIn_n h2))
      refine kv_aload_n dX12_move_14 rfl ?_
      refine kv_ldc dX12_move_15 kX12_83 ?_
      refine kw_Vi [_] mX12_finding dX12_move_17 lX12_84 wX12_finding kC12 hu rfl (by first | rfl | assumption) rfl rfl rfl (qX12_finding (by exact hu) 1 (by decide) (by decide) _ (by decide)) (by decide) ?_
      exact kv_iret dX12_move_20 rfl (by rw [hS]; exact kOM.no hm hu rfl)

theorem kmove_ok {a : KA} (ho : kOk a) (p0 p1 p2 p3 p4 : Int32) : kOk (kmove a p0 p1 p2 p3 p4).2 := by
  unfold kmove
  split
  · exact ho.fnd 1
  · split
    · exact ho.fnd 2
    · split
      · exact ho.fnd 5
      · split
        · exact ho.fnd 1
        · dsimp only; exact ho.sh (fun j hj => kUp1_n (by omega)) (fun i hi => by rw [kUp1_n (by omega), kUp1_n (by omega)]; exact ho.2.2.2 i hi)
