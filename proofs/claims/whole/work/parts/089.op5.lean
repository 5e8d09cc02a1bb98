set_option maxRecDepth 20000 in
set_option maxHeartbeats 4000000 in
theorem qX11_mark {w : KW} {l : Launch} {u : KMem} (hu : kWd u) {a : KA} (hx : kRX a u) (ho : kOk a) (p0 p1 p2 : Int32) : KC w l mX11_mark 2 0 0 [.ref 0, .int p0, .int p1, .int p2] u (kOX u (kmark a p0 p1 p2).1 (kmark a p0 p1 p2).2) := by
  have hr := hx.1
  have hg := ho.1
  have hx20 := (hg.cnt (k := 2) rfl).2
  have hc30 := (hg.cnt (k := 0) rfl).2
  have ht10 := (hg.cnt (k := 3) rfl).2
  have he40 := (hg.cnt (k := 4) rfl).2
  have hs16 := hg.cnt (k := 1) rfl
  refine KC.of (ls := [_, _, _, _, _, _]) rfl rfl (Nat.le_of_ble_eq_true rfl) ?_
  refine kv_aload_n dX11_mark_0 rfl ?_
  refine kv_iload_n dX11_mark_1 rfl ?_
  refine kw_Vi [_] mX11_noCar dX11_mark_2 lX11_94 wX11_noCar kC11 hu rfl (by first | rfl | assumption) rfl rfl rfl (qX11_noCar hu _) (by decide) ?_
  refine kw_bne dX11_mark_5 27 (by decide) (fun h1 => ?_) (fun h1 => ?_)
  · rw [hr.n0] at h1
    have hS : kmark a p0 p1 p2 = (-1000001, kF a 1) := if_pos (Or.inl h1)
    refine kv_aload_n dX11_mark_27 rfl ?_
    refine kv_ldc dX11_mark_28 kX11_74 ?_
    refine kw_Vi [_] mX11_refuse dX11_mark_30 lX11_75 wX11_refuse kC11 hu rfl (by first | rfl | assumption) rfl rfl rfl (qX11_refuse hu 1 (by decide) (by decide) _ (by decide)) (by decide) ?_
    exact kv_iret dX11_mark_33 rfl (by rw [hS]; exact kOX.no hx ho hu (by decide) rfl)
  · rw [hr.n0] at h1
    have n1 : ¬ kOut p0 0 (a 0 0 - 1) := h1
    refine kv_iload_n dX11_mark_8 rfl ?_
    refine kv_iconst dX11_mark_9 0 ki_0 ?_
    refine kv_iconst dX11_mark_10 2 ki_2 ?_
    refine kw_Si [_, _, _] mX11_outside dX11_mark_11 lX11_69 wX11_outside rfl rfl rfl (qX11_outside hu _ _ _) (by decide) ?_
    refine kw_bne dX11_mark_14 27 (by decide) (fun h2 => ?_) (fun h2 => ?_)
    · have hS : kmark a p0 p1 p2 = (-1000001, kF a 1) := if_pos (Or.inr (Or.inl h2))
      refine kv_aload_n dX11_mark_27 rfl ?_
      refine kv_ldc dX11_mark_28 kX11_74 ?_
      refine kw_Vi [_] mX11_refuse dX11_mark_30 lX11_75 wX11_refuse kC11 hu rfl (by first | rfl | assumption) rfl rfl rfl (qX11_refuse hu 1 (by decide) (by decide) _ (by decide)) (by decide) ?_
      exact kv_iret dX11_mark_33 rfl (by rw [hS]; exact kOX.no hx ho hu (by decide) rfl)
    · have n2 : ¬ kOut p1 0 2 := h2
      refine kv_iload_n dX11_mark_17 rfl ?_
      refine kv_iconst dX11_mark_18 (-1) ki_m1 ?_
      refine kv_bipush dX11_mark_19 99 kb_99 ?_
      refine kw_Si [_, _, _] mX11_outside dX11_mark_21 lX11_69 wX11_outside rfl rfl rfl (qX11_outside hu _ _ _) (by decide) ?_
      refine kw_beq dX11_mark_24 34 (by decide) (fun h3 => ?_) (fun h3 => ?_)
      · have n3 : ¬ kOut p2 (-1) 99 := h3
        have hS : kmark a p0 p1 p2 = _ := if_neg (fun q => q.elim n1 (fun q => q.elim n2 n3))
        obtain ⟨c, hc, rfl⟩ := hg.at (k := 0) rfl n1
        obtain ⟨j, hj2, rfl⟩ := kOut.bd (n := 2) (by omega) n2
        have hj : j < 3 := by omega
        rw [nI_clamp (by omega), nI_clamp (by omega)] at hS
        have kc := ks_car c (by omega)
        have kc1 := kc.1
        have kc2 := kc.2.1
        have kc3 := kc.2.2.1
        have kc4 := kc.2.2.2
        refine kv_aload_n dX11_mark_34 rfl ?_
        refine kw_gR dX11_mark_35 fX11_12 hu (by first | rfl | assumption) rfl rfl (by first | rfl | assumption) ?_
        refine kw_gR dX11_mark_38 fX11_84 hu (by first | rfl | assumption) rfl rfl (by first | rfl | assumption) ?_
        refine kv_iload_n dX11_mark_41 rfl ?_
        refine kw_al (t := 0) (n := 30) dX11_mark_42 hu rfl rfl (c) rfl (by omega) rfl (by first | rfl | assumption) ?_
        refine kw_gR dX11_mark_43 fX11_117 hu (by first | rfl | assumption) rfl rfl (by first | rfl | assumption) ?_
        refine kv_astore (ls2 := [_, _, _, _, _, _]) dX11_mark_46 rfl rfl rfl rfl ?_
        refine kv_aload dX11_mark_48 rfl ?_
        refine kv_iload_n dX11_mark_50 rfl ?_
        refine kw_il dX11_mark_51 hu (by first | rfl | assumption) (j) rfl (by omega) rfl ?_
        rw [hr.mark hc hj]
        refine kv_istore (ls2 := [_, _, _, _, _, _]) dX11_mark_52 rfl rfl rfl rfl ?_
        refine kv_aload dX11_mark_54 rfl ?_
        refine kv_iload_n dX11_mark_56 rfl ?_
        refine kv_iload_n dX11_mark_57 rfl ?_
        refine kw_is dX11_mark_58 hu (by first | rfl | assumption) (j) rfl (by omega) rfl ?_
        refine kv_iload dX11_mark_59 rfl ?_
        exact kv_iret dX11_mark_61 rfl (by rw [hS]; exact ⟨by rw [show 40 + 8 * c + (5 + j) = 40 + 8 * c + 5 + j by omega], hu, fun b hb => kv_si_row (by omega), hx.now ho (hr.setMark hg hc hj p2) (fun b k hb _ => kv_si_a (by omega))⟩)
      · have hS : kmark a p0 p1 p2 = (-1000001, kF a 1) := if_pos (Or.inr (Or.inr h3))
        refine kv_aload_n dX11_mark_27 rfl ?_
        refine kv_ldc dX11_mark_28 kX11_74 ?_
        refine kw_Vi [_] mX11_refuse dX11_mark_30 lX11_75 wX11_refuse kC11 hu rfl (by first | rfl | assumption) rfl rfl rfl (qX11_refuse hu 1 (by decide) (by decide) _ (by decide)) (by decide) ?_
        exact kv_iret dX11_mark_33 rfl (by rw [hS]; exact kOX.no hx ho hu (by decide) rfl)

set_option maxRecDepth 20000 in
set_option maxHeartbeats 4000000 in
theorem qX12_mark {w : KW} {l : Launch} {u : KMem} (hu : kWd u) {a : KA} (hm : kRM a u) (ho : kOk a) (p0 p1 p2 : Int32) : KC w l mX12_mark 2 0 0 [.ref 413, .int p0, .int p1, .int p2] u (kOM u (kmark a p0 p1 p2).1 (kmark a p0 p1 p2).2) := by
  have eg := hm.1
  have hg := ho.1
  have hx20 := (hg.cnt (k := 2) rfl).2
  have hc30 := (hg.cnt (k := 0) rfl).2
  have ht10 := (hg.cnt (k := 3) rfl).2
  have he40 := (hg.cnt (k := 4) rfl).2
  have hs16 := hg.cnt (k := 1) rfl
  refine KC.of (ls := [_, _, _, _]) rfl rfl (Nat.le_of_ble_eq_true rfl) ?_
  refine kv_aload_n dX12_mark_0 rfl ?_
  refine kv_iload_n dX12_mark_1 rfl ?_
  refine kv_iconst dX12_mark_2 0 ki_0 ?_
  refine kw_Vi [_, _] mX12_is dX12_mark_3 lX12_93 wX12_is kC12 hu rfl (by first | rfl | assumption) rfl rfl rfl (gX12_is hu eg _ 0 (by omega)) (by decide) ?_
  refine kw_beq dX12_mark_6 47 (by decide) (fun h1 => ?_) (fun h1 => ?_)
  · have hS : kmark a p0 p1 p2 = (-1000001, kF a 1) := if_pos (Or.inl (kIn_n h1))
    refine kv_aload_n dX12_mark_47 rfl ?_
    refine kv_ldc dX12_mark_48 kX12_83 ?_
    refine kw_Vi [_] mX12_finding dX12_mark_50 lX12_84 wX12_finding kC12 hu rfl (by first | rfl | assumption) rfl rfl rfl (qX12_finding hu 1 (by decide) (by decide) _ (by decide)) (by decide) ?_
    exact kv_iret dX12_mark_53 rfl (by first | (rw [hS]; exact kOM.no hm hu rfl) | (rw [hS]; exact ⟨by rw [eg], hu, fun b hb => kv_si_row (by omega), hm.now (by rw [kv_si_set, eg]) (fun b hb => kv_si_row (by omega)) (kv_si_row (by omega))⟩))
  · have n1 : ¬ kOut p0 0 (a 0 0 - 1) := kIn_y h1
    refine kv_iload_n dX12_mark_9 rfl ?_
    refine kv_iconst dX12_mark_10 0 ki_0 ?_
    refine kv_iconst dX12_mark_11 2 ki_2 ?_
    refine kw_Si [_, _, _] mX12_within dX12_mark_12 lX12_78 wX12_within rfl rfl rfl (qX12_within hu _ _ _) (by decide) ?_
    refine kw_beq dX12_mark_15 47 (by decide) (fun h2 => ?_) (fun h2 => ?_)
    · have hS : kmark a p0 p1 p2 = (-1000001, kF a 1) := if_pos (Or.inr (Or.inl (kIn_n h2)))
      refine kv_aload_n dX12_mark_47 rfl ?_
      refine kv_ldc dX12_mark_48 kX12_83 ?_
      refine kw_Vi [_] mX12_finding dX12_mark_50 lX12_84 wX12_finding kC12 hu rfl (by first | rfl | assumption) rfl rfl rfl (qX12_finding hu 1 (by decide) (by decide) _ (by decide)) (by decide) ?_
      exact kv_iret dX12_mark_53 rfl (by first | (rw [hS]; exact kOM.no hm hu rfl) | (rw [hS]; exact ⟨by rw [eg], hu, fun b hb => kv_si_row (by omega), hm.now (by rw [kv_si_set, eg]) (fun b hb => kv_si_row (by omega)) (kv_si_row (by omega))⟩))
    · have n2 : ¬ kOut p1 0 2 := kIn_y h2
      refine kv_iload_n dX12_mark_18 rfl ?_
      refine kv_iconst dX12_mark_19 (-1) ki_m1 ?_
      refine kv_bipush dX12_mark_20 99 kb_99 ?_
      refine kw_Si [_, _, _] mX12_within dX12_mark_22 lX12_78 wX12_within rfl rfl rfl (qX12_within hu _ _ _) (by decide) ?_
      refine kw_beq dX12_mark_25 47 (by decide) (fun h3 => ?_) (fun h3 => ?_)
      · have hS : kmark a p0 p1 p2 = (-1000001, kF a 1) := if_pos (Or.inr (Or.inr (kIn_n h3)))
        refine kv_aload_n dX12_mark_47 rfl ?_
        refine kv_ldc dX12_mark_48 kX12_83 ?_
        refine kw_Vi [_] mX12_finding dX12_mark_50 lX12_84 wX12_finding kC12 hu rfl (by first | rfl | assumption) rfl rfl rfl (qX12_finding hu 1 (by decide) (by decide) _ (by decide)) (by decide) ?_
        exact kv_iret dX12_mark_53 rfl (by first | (rw [hS]; exact kOM.no hm hu rfl) | (rw [hS]; exact ⟨by rw [eg], hu, fun b hb => kv_si_row (by omega), hm.now (by rw [kv_si_set, eg]) (fun b hb => kv_si_row (by omega)) (kv_si_row (by omega))⟩))
      · have n3 : ¬ kOut p2 (-1) 99 := kIn_y h3
        have hS : kmark a p0 p1 p2 = _ := if_neg (fun q => q.elim n1 (fun q => q.elim n2 n3))
        obtain ⟨c, hc, rfl⟩ := hg.at (k := 0) rfl n1
        obtain ⟨j, hj2, rfl⟩ := kOut.bd (n := 2) (by omega) n2
        have hj : j < 3 := by omega
        rw [nI_clamp (by omega), nI_clamp (by omega)] at hS
        refine kv_aload_n dX12_mark_28 rfl ?_
        refine kv_bipush dX12_mark_29 40 kb_40 ?_
        refine kv_bipush dX12_mark_31 8 kb_8 ?_
        refine kv_iload_n dX12_mark_33 rfl ?_
        refine kv_imul dX12_mark_34 ?_
        refine kv_iadd dX12_mark_35 ?_
        refine kv_iconst dX12_mark_36 5 ki_5 ?_
        refine kv_iadd dX12_mark_37 ?_
        refine kv_iload_n dX12_mark_38 rfl ?_
        refine kv_iadd dX12_mark_39 ?_
        refine kv_iload_n dX12_mark_40 rfl ?_
        rw [show (40 + 8 * nI c + 5 + nI j : Int32) = nI (40 + 8 * c + 5 + j) from kn_add (kn_add (kn_add (show (40 : Int32) = nI 40 from rfl) (kn_mul (show (8 : Int32) = nI 8 from rfl) rfl)) (show (5 : Int32) = nI 5 from rfl)) rfl]
        refine kw_Vi [_, _] mX12_become dX12_mark_41 lX12_100 wX12_become kC12 hu rfl (by first | rfl | assumption) rfl rfl rfl (qX12_become hu (40 + 8 * c + 5 + j) (by omega) p2) (by decide) ?_
        refine kv_goto dX12_mark_44 53 (by decide) ?_
        exact kv_iret dX12_mark_53 rfl (by first | (rw [hS]; exact kOM.no hm hu rfl) | (rw [hS]; exact ⟨by rw [eg], hu, fun b hb => kv_si_row (by omega), hm.now (by rw [kv_si_set, eg]) (fun b hb => kv_si_row (by omega)) (kv_si_row (by omega))⟩))

