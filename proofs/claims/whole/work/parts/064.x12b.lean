set_option maxRecDepth 20000 in
set_option maxHeartbeats 4000000 in
theorem qX12_allShapes {w : KW} {l : Launch} {u : KMem} (hu : kWd u) : KC w l mX12_allShapes 0 0 0 [.ref 413] u (kq (some (.int (kAll (u.2.1 414)))) u) := by
  refine KC.of (ls := [_]) rfl rfl (Nat.le_of_ble_eq_true rfl) ?_
  refine kv_iconst dX12_allShapes_0 1 ki_1 ?_
  refine kv_aload_n dX12_allShapes_1 rfl ?_
  refine kw_gR dX12_allShapes_2 fX12_9 hu (by first | rfl | assumption) rfl rfl (by first | rfl | assumption) ?_
  refine kv_iconst dX12_allShapes_5 1 ki_1 ?_
  refine kw_il dX12_allShapes_6 hu (by first | rfl | assumption) (_) (show (1 : Int32) = nI 1 from rfl) (by omega) rfl ?_
  refine kv_ishl dX12_allShapes_7 ?_
  refine kv_iconst dX12_allShapes_8 1 ki_1 ?_
  refine kv_isub dX12_allShapes_9 ?_
  exact kv_iret dX12_allShapes_10 rfl ⟨rfl, rfl⟩

set_option maxRecDepth 20000 in
set_option maxHeartbeats 4000000 in
theorem qX12_fresh {w : KW} {l : Launch} {u : KMem} (hu : kWd u) (hg : kGI (u.2.1 414)) (x s : Nat) (hx : x < kN (u.2.1 414) 2) (hs : s < 2) : KC w l mX12_fresh 2 0 0 [.ref 413, .int (nI x), .int (nI s)] u (kq (some (.int (kFresh (u.2.1 414) x s))) u) := by
  have hx20 := (hg.cnt (k := 2) rfl).2
  have hc30 := (hg.cnt (k := 0) rfl).2
  have hco := hg.carOf hx hs
  refine KC.of (ls := [_, _, _]) rfl rfl (Nat.le_of_ble_eq_true rfl) ?_
  refine kv_iload_n dX12_fresh_0 rfl ?_
  refine kv_if_ne dX12_fresh_1 16 (by decide) (fun h1 => ?_) (fun h1 => ?_)
  · have hs1 : ¬ s = 0 := fun q => h1 (by rw [q]; rfl)
    refine kv_aload_n dX12_fresh_16 rfl ?_
    refine kv_iload_n dX12_fresh_17 rfl ?_
    refine kv_iconst dX12_fresh_18 4 ki_4 ?_
    refine kw_Vi [_, _] mX12_crash_ dX12_fresh_19 lX12_113 wX12_crash_ kC12 hu rfl (by first | rfl | assumption) rfl rfl rfl (qX12_crash_ hu x 4 (by omega) (by decide)) (by decide) ?_
    refine kv_sipush dX12_fresh_22 255 kz_255 ?_
    refine kv_iand dX12_fresh_25 ?_
    refine kv_aload_n dX12_fresh_26 rfl ?_
    refine kv_aload_n dX12_fresh_27 rfl ?_
    refine kv_iload_n dX12_fresh_28 rfl ?_
    refine kv_iload_n dX12_fresh_29 rfl ?_
    refine kw_Vi [_, _] mX12_carOf dX12_fresh_30 lX12_116 wX12_carOf kC12 hu rfl (by first | rfl | assumption) rfl rfl rfl (qX12_carOf hu x s (by omega) hs) (by decide) ?_
    rw [hco.1]
    refine kv_iconst dX12_fresh_33 4 ki_4 ?_
    refine kw_Vi [_, _] mX12_car dX12_fresh_34 lX12_89 wX12_car kC12 hu rfl (by first | rfl | assumption) rfl rfl rfl (qX12_car hu (kCarOf (u.2.1 414) x s) 4 (by omega) (by decide)) (by decide) ?_
    refine kv_iconst dX12_fresh_37 (-1) ki_m1 ?_
    refine kv_ixor dX12_fresh_38 ?_
    refine kv_iand dX12_fresh_39 ?_
    exact kv_iret dX12_fresh_40 rfl ⟨by unfold kFresh; simp [*], rfl⟩
  · have hs0 : s = 0 := (kn_eq (by omega) (by omega)).mp h1
    refine kv_aload_n dX12_fresh_4 rfl ?_
    refine kv_iload_n dX12_fresh_5 rfl ?_
    refine kv_iconst dX12_fresh_6 4 ki_4 ?_
    refine kw_Vi [_, _] mX12_crash_ dX12_fresh_7 lX12_113 wX12_crash_ kC12 hu rfl (by first | rfl | assumption) rfl rfl rfl (qX12_crash_ hu x 4 (by omega) (by decide)) (by decide) ?_
    refine kv_bipush dX12_fresh_10 8 kb_8 ?_
    refine kv_ishr dX12_fresh_12 ?_
    refine kv_goto dX12_fresh_13 26 (by decide) ?_
    refine kv_aload_n dX12_fresh_26 rfl ?_
    refine kv_aload_n dX12_fresh_27 rfl ?_
    refine kv_iload_n dX12_fresh_28 rfl ?_
    refine kv_iload_n dX12_fresh_29 rfl ?_
    refine kw_Vi [_, _] mX12_carOf dX12_fresh_30 lX12_116 wX12_carOf kC12 hu rfl (by first | rfl | assumption) rfl rfl rfl (qX12_carOf hu x s (by omega) hs) (by decide) ?_
    rw [hco.1]
    refine kv_iconst dX12_fresh_33 4 ki_4 ?_
    refine kw_Vi [_, _] mX12_car dX12_fresh_34 lX12_89 wX12_car kC12 hu rfl (by first | rfl | assumption) rfl rfl rfl (qX12_car hu (kCarOf (u.2.1 414) x s) 4 (by omega) (by decide)) (by decide) ?_
    refine kv_iconst dX12_fresh_37 (-1) ki_m1 ?_
    refine kv_ixor dX12_fresh_38 ?_
    refine kv_iand dX12_fresh_39 ?_
    exact kv_iret dX12_fresh_40 rfl ⟨by unfold kFresh; simp [*], rfl⟩

set_option maxRecDepth 20000 in
set_option maxHeartbeats 4000000 in
theorem qX12_fit {w : KW} {l : Launch} {u : KMem} (hu : kWd u) (hg : kGI (u.2.1 414)) (x : Nat) (hx : x < kN (u.2.1 414) 2) : KC w l mX12_fit 3 0 0 [.ref 413, .int (nI x)] u (kq (some (.int (kFit (u.2.1 414) x))) u) := by
  have hx20 := (hg.cnt (k := 2) rfl).2
  have hc30 := (hg.cnt (k := 0) rfl).2
  have hn := hg.cnt (k := 1) rfl
  have hn2 := hn.2
  refine KC.of (ls := [_, _, _, _, _, _, _]) rfl rfl (Nat.le_of_ble_eq_true rfl) ?_
  refine kv_sipush dX12_fit_0 256 kz_256 ?_
  refine kv_aload_n dX12_fit_3 rfl ?_
  refine kv_iload_n dX12_fit_4 rfl ?_
  refine kv_iconst dX12_fit_5 0 ki_0 ?_
  refine kw_Vi [_, _] mX12_fresh dX12_fit_6 lX12_119 wX12_fresh kC12 hu rfl (by first | rfl | assumption) rfl rfl rfl (qX12_fresh hu hg x 0 hx (by decide)) (by decide) ?_
  refine kv_imul dX12_fit_9 ?_
  refine kv_aload_n dX12_fit_10 rfl ?_
  refine kv_iload_n dX12_fit_11 rfl ?_
  refine kv_iconst dX12_fit_12 1 ki_1 ?_
  refine kw_Vi [_, _] mX12_fresh dX12_fit_13 lX12_119 wX12_fresh kC12 hu rfl (by first | rfl | assumption) rfl rfl rfl (qX12_fresh hu hg x 1 hx (by decide)) (by decide) ?_
  refine kv_iadd dX12_fit_16 ?_
  refine kv_istore_n (ls2 := [_, _, _, _, _, _, _]) dX12_fit_17 rfl rfl rfl rfl ?_
  refine kv_iconst dX12_fit_18 0 ki_0 ?_
  refine kv_istore_n (ls2 := [_, _, _, _, _, _, _]) dX12_fit_19 rfl rfl rfl rfl ?_
  refine kv_iconst dX12_fit_20 0 ki_0 ?_
  refine kv_istore (ls2 := [_, _, _, _, _, _, _]) dX12_fit_21 rfl rfl rfl rfl ?_
  refine KV.loc (ls2 := [some (.ref 413), some (.int (nI x)), some (.int (256 * kFresh (u.2.1 414) x 0 + kFresh (u.2.1 414) x 1)), some (.int (kFitA (u.2.1 414) (256 * kFresh (u.2.1 414) x 0 + kFresh (u.2.1 414) x 1) 0)), some (.int (nI 0)), none, none]) ?_ (ksS (by first | rfl | (simp only [kFitA, *, eq_self, and_self, and_true, true_and, and_false, false_and, or_true, true_or, or_false, false_or, not_true_eq_false, not_false_eq_true, ne_eq, ↓reduceIte, Nat.succ_ne_self, reduceCtorEq]; done)) (ksS (by first | rfl | (simp only [kFitA, *, eq_self, and_self, and_true, true_and, and_false, false_and, or_true, true_or, or_false, false_or, not_true_eq_false, not_false_eq_true, ne_eq, ↓reduceIte, Nat.succ_ne_self, reduceCtorEq]; done)) (ksS (by first | rfl | (simp only [kFitA, *, eq_self, and_self, and_true, true_and, and_false, false_and, or_true, true_or, or_false, false_or, not_true_eq_false, not_false_eq_true, ne_eq, ↓reduceIte, Nat.succ_ne_self, reduceCtorEq]; done)) (ksS (by first | rfl | (simp only [kFitA, *, eq_self, and_self, and_true, true_and, and_false, false_and, or_true, true_or, or_false, false_or, not_true_eq_false, not_false_eq_true, ne_eq, ↓reduceIte, Nat.succ_ne_self, reduceCtorEq]; done)) (ksS (by first | rfl | (simp only [kFitA, *, eq_self, and_self, and_true, true_and, and_false, false_and, or_true, true_or, or_false, false_or, not_true_eq_false, not_false_eq_true, ne_eq, ↓reduceIte, Nat.succ_ne_self, reduceCtorEq]; done)) (ks0 (ks0 ksN)))))))
  refine kn_loop (P := fun i => KV w l mX12_fit 3 0 0 23 [some (.ref 413), some (.int (nI x)), some (.int (256 * kFresh (u.2.1 414) x 0 + kFresh (u.2.1 414) x 1)), some (.int (kFitA (u.2.1 414) (256 * kFresh (u.2.1 414) x 0 + kFresh (u.2.1 414) x 1) i)), some (.int (nI i)), none, none] [] u (kq (some (.int (kFit (u.2.1 414) x))) u)) (kN (u.2.1 414) 1) ?_ (fun i hi ih => ?_)
  · refine kv_iload dX12_fit_23 rfl ?_
    refine kv_aload_n dX12_fit_25 rfl ?_
    refine kw_gR dX12_fit_26 fX12_9 hu (by first | rfl | assumption) rfl rfl (by first | rfl | assumption) ?_
    refine kv_iconst dX12_fit_29 1 ki_1 ?_
    refine kw_il dX12_fit_30 hu (by first | rfl | assumption) (_) (show (1 : Int32) = nI 1 from rfl) (by omega) rfl ?_
    rw [hn.1]
    refine kv_icmp_ge dX12_fit_31 104 (by decide) (fun h1 => ?_) (fun h1 => ?_)
    · refine kv_iload_n dX12_fit_104 rfl ?_
      exact kv_iret dX12_fit_105 rfl ⟨rfl, rfl⟩
    · exact (kn_nge h1).elim
  · refine kv_iload dX12_fit_23 rfl ?_
    refine kv_aload_n dX12_fit_25 rfl ?_
    refine kw_gR dX12_fit_26 fX12_9 hu (by first | rfl | assumption) rfl rfl (by first | rfl | assumption) ?_
    refine kv_iconst dX12_fit_29 1 ki_1 ?_
    refine kw_il dX12_fit_30 hu (by first | rfl | assumption) (_) (show (1 : Int32) = nI 1 from rfl) (by omega) rfl ?_
    rw [hn.1]
    refine kv_icmp_ge dX12_fit_31 104 (by decide) (fun h2 => ?_) (fun h2 => ?_)
    · exact absurd h2 (kn_ge (n := kN (u.2.1 414) 1) hi (by omega))
    · refine kv_aload_n dX12_fit_34 rfl ?_
      refine kw_gR dX12_fit_35 fX12_9 hu (by first | rfl | assumption) rfl rfl (by first | rfl | assumption) ?_
      refine kv_sipush dX12_fit_38 280 kz_280 ?_
      refine kv_iconst dX12_fit_41 3 ki_3 ?_
      refine kv_iload dX12_fit_42 rfl ?_
      refine kv_imul dX12_fit_44 ?_
      refine kv_iadd dX12_fit_45 ?_
      refine kw_il dX12_fit_46 hu (by first | rfl | assumption) (_) (kn_add (show (280 : Int32) = nI 280 from rfl) (kn_mul (show (3 : Int32) = nI 3 from rfl) rfl)) (by omega) rfl ?_
      refine kv_istore (ls2 := [_, _, _, _, _, _, _]) dX12_fit_47 rfl rfl rfl rfl ?_
      refine kv_aload_n dX12_fit_49 rfl ?_
      refine kw_gR dX12_fit_50 fX12_9 hu (by first | rfl | assumption) rfl rfl (by first | rfl | assumption) ?_
      refine kv_sipush dX12_fit_53 280 kz_280 ?_
      refine kv_iconst dX12_fit_56 3 ki_3 ?_
      refine kv_iload dX12_fit_57 rfl ?_
      refine kv_imul dX12_fit_59 ?_
      refine kv_iadd dX12_fit_60 ?_
      refine kv_iconst dX12_fit_61 1 ki_1 ?_
      refine kv_iadd dX12_fit_62 ?_
      refine kw_il dX12_fit_63 hu (by first | rfl | assumption) (_) (kn_add (kn_add (show (280 : Int32) = nI 280 from rfl) (kn_mul (show (3 : Int32) = nI 3 from rfl) rfl)) (show (1 : Int32) = nI 1 from rfl)) (by omega) rfl ?_
      refine kv_istore (ls2 := [_, _, _, _, _, _, _]) dX12_fit_64 rfl rfl rfl rfl ?_
      refine kv_iload_n dX12_fit_66 rfl ?_
      refine kv_iload dX12_fit_67 rfl ?_
      refine kv_iload_n dX12_fit_69 rfl ?_
      refine kv_iconst dX12_fit_70 (-1) ki_m1 ?_
      refine kv_ixor dX12_fit_71 ?_
      refine kv_iand dX12_fit_72 ?_
      refine kv_if_ne dX12_fit_73 95 (by decide) (fun h3 => ?_) (fun h3 => ?_)
      · refine kv_iconst dX12_fit_95 0 ki_0 ?_
        refine kv_ior dX12_fit_96 ?_
        refine kv_istore_n (ls2 := [_, _, _, _, _, _, _]) dX12_fit_97 rfl rfl rfl rfl ?_
        refine kv_iinc (ls2 := [_, _, _, _, _, _, _]) dX12_fit_98 (nI (i + 1)) rfl (kv_inc1 i) rfl rfl rfl rfl ?_
        refine kv_goto dX12_fit_101 23 (by decide) ?_
        exact KV.loc ih (ksS (by first | rfl | (simp only [kFitA, *, eq_self, and_self, and_true, true_and, and_false, false_and, or_true, true_or, or_false, false_or, not_true_eq_false, not_false_eq_true, ne_eq, ↓reduceIte, Nat.succ_ne_self, reduceCtorEq]; done)) (ksS (by first | rfl | (simp only [kFitA, *, eq_self, and_self, and_true, true_and, and_false, false_and, or_true, true_or, or_false, false_or, not_true_eq_false, not_false_eq_true, ne_eq, ↓reduceIte, Nat.succ_ne_self, reduceCtorEq]; done)) (ksS (by first | rfl | (simp only [kFitA, *, eq_self, and_self, and_true, true_and, and_false, false_and, or_true, true_or, or_false, false_or, not_true_eq_false, not_false_eq_true, ne_eq, ↓reduceIte, Nat.succ_ne_self, reduceCtorEq]; done)) (ksS (by first | rfl | (simp only [kFitA, *, eq_self, and_self, and_true, true_and, and_false, false_and, or_true, true_or, or_false, false_or, not_true_eq_false, not_false_eq_true, ne_eq, ↓reduceIte, Nat.succ_ne_self, reduceCtorEq]; done)) (ksS (by first | rfl | (simp only [kFitA, *, eq_self, and_self, and_true, true_and, and_false, false_and, or_true, true_or, or_false, false_or, not_true_eq_false, not_false_eq_true, ne_eq, ↓reduceIte, Nat.succ_ne_self, reduceCtorEq]; done)) (ks0 (ks0 ksN)))))))
      · refine kv_iload_n dX12_fit_76 rfl ?_
        refine kv_iload dX12_fit_77 rfl ?_
        refine kv_iload dX12_fit_79 rfl ?_
        refine kv_ior dX12_fit_81 ?_
        refine kv_iconst dX12_fit_82 (-1) ki_m1 ?_
        refine kv_ixor dX12_fit_83 ?_
        refine kv_iand dX12_fit_84 ?_
        refine kv_if_ne dX12_fit_85 95 (by decide) (fun h4 => ?_) (fun h4 => ?_)
        · refine kv_iconst dX12_fit_95 0 ki_0 ?_
          refine kv_ior dX12_fit_96 ?_
          refine kv_istore_n (ls2 := [_, _, _, _, _, _, _]) dX12_fit_97 rfl rfl rfl rfl ?_
          refine kv_iinc (ls2 := [_, _, _, _, _, _, _]) dX12_fit_98 (nI (i + 1)) rfl (kv_inc1 i) rfl rfl rfl rfl ?_
          refine kv_goto dX12_fit_101 23 (by decide) ?_
          exact KV.loc ih (ksS (by first | rfl | (simp only [kFitA, *, eq_self, and_self, and_true, true_and, and_false, false_and, or_true, true_or, or_false, false_or, not_true_eq_false, not_false_eq_true, ne_eq, ↓reduceIte, Nat.succ_ne_self, reduceCtorEq]; done)) (ksS (by first | rfl | (simp only [kFitA, *, eq_self, and_self, and_true, true_and, and_false, false_and, or_true, true_or, or_false, false_or, not_true_eq_false, not_false_eq_true, ne_eq, ↓reduceIte, Nat.succ_ne_self, reduceCtorEq]; done)) (ksS (by first | rfl | (simp only [kFitA, *, eq_self, and_self, and_true, true_and, and_false, false_and, or_true, true_or, or_false, false_or, not_true_eq_false, not_false_eq_true, ne_eq, ↓reduceIte, Nat.succ_ne_self, reduceCtorEq]; done)) (ksS (by first | rfl | (simp only [kFitA, *, eq_self, and_self, and_true, true_and, and_false, false_and, or_true, true_or, or_false, false_or, not_true_eq_false, not_false_eq_true, ne_eq, ↓reduceIte, Nat.succ_ne_self, reduceCtorEq]; done)) (ksS (by first | rfl | (simp only [kFitA, *, eq_self, and_self, and_true, true_and, and_false, false_and, or_true, true_or, or_false, false_or, not_true_eq_false, not_false_eq_true, ne_eq, ↓reduceIte, Nat.succ_ne_self, reduceCtorEq]; done)) (ks0 (ks0 ksN)))))))
        · refine kv_iconst dX12_fit_88 1 ki_1 ?_
          refine kv_iload dX12_fit_89 rfl ?_
          refine kv_ishl dX12_fit_91 ?_
          refine kv_goto dX12_fit_92 96 (by decide) ?_
          refine kv_ior dX12_fit_96 ?_
          refine kv_istore_n (ls2 := [_, _, _, _, _, _, _]) dX12_fit_97 rfl rfl rfl rfl ?_
          refine kv_iinc (ls2 := [_, _, _, _, _, _, _]) dX12_fit_98 (nI (i + 1)) rfl (kv_inc1 i) rfl rfl rfl rfl ?_
          refine kv_goto dX12_fit_101 23 (by decide) ?_
          exact KV.loc ih (ksS (by first | rfl | (simp only [kFitA, *, eq_self, and_self, and_true, true_and, and_false, false_and, or_true, true_or, or_false, false_or, not_true_eq_false, not_false_eq_true, ne_eq, ↓reduceIte, Nat.succ_ne_self, reduceCtorEq]; done)) (ksS (by first | rfl | (simp only [kFitA, *, eq_self, and_self, and_true, true_and, and_false, false_and, or_true, true_or, or_false, false_or, not_true_eq_false, not_false_eq_true, ne_eq, ↓reduceIte, Nat.succ_ne_self, reduceCtorEq]; done)) (ksS (by first | rfl | (simp only [kFitA, *, eq_self, and_self, and_true, true_and, and_false, false_and, or_true, true_or, or_false, false_or, not_true_eq_false, not_false_eq_true, ne_eq, ↓reduceIte, Nat.succ_ne_self, reduceCtorEq]; done)) (ksS (by first | rfl | (simp only [kFitA, *, eq_self, and_self, and_true, true_and, and_false, false_and, or_true, true_or, or_false, false_or, not_true_eq_false, not_false_eq_true, ne_eq, ↓reduceIte, Nat.succ_ne_self, reduceCtorEq]; done)) (ksS (by first | rfl | (simp only [kFitA, *, eq_self, and_self, and_true, true_and, and_false, false_and, or_true, true_or, or_false, false_or, not_true_eq_false, not_false_eq_true, ne_eq, ↓reduceIte, Nat.succ_ne_self, reduceCtorEq]; done)) (ks0 (ks0 ksN)))))))

set_option maxRecDepth 20000 in
set_option maxHeartbeats 4000000 in
theorem qX12_toldBy {w : KW} {l : Launch} {u : KMem} (hu : kWd u) (hg : kGI (u.2.1 414)) (x s : Nat) (hx : x < kN (u.2.1 414) 2) (hs : s < 2) : KC w l mX12_toldBy 1 0 0 [.ref 413, .int (nI x), .int (nI s)] u (kq (some (.int (kTold (u.2.1 414) x s))) u) := by
  have hx20 := (hg.cnt (k := 2) rfl).2
  have hc30 := (hg.cnt (k := 0) rfl).2
  refine KC.of (ls := [_, _, _, _]) rfl rfl (Nat.le_of_ble_eq_true rfl) ?_
  refine kv_aload_n dX12_toldBy_0 rfl ?_
  refine kv_iload_n dX12_toldBy_1 rfl ?_
  refine kv_iconst dX12_toldBy_2 5 ki_5 ?_
  refine kv_iload_n dX12_toldBy_3 rfl ?_
  refine kv_iadd dX12_toldBy_4 ?_
  rw [show (5 : Int32) + nI s = nI (5 + s) from kn_add rfl rfl]
  refine kw_Vi [_, _] mX12_crash_ dX12_toldBy_5 lX12_113 wX12_crash_ kC12 hu rfl (by first | rfl | assumption) rfl rfl rfl (qX12_crash_ hu x (5 + s) (by omega) (by omega)) (by decide) ?_
  refine kv_istore_n (ls2 := [_, _, _, _]) dX12_toldBy_8 rfl rfl rfl rfl ?_
  refine kv_iload_n dX12_toldBy_9 rfl ?_
  refine kv_if_ne dX12_toldBy_10 20 (by decide) (fun h1 => ?_) (fun h1 => ?_)
  · refine kv_iload_n dX12_toldBy_20 rfl ?_
    exact kv_iret dX12_toldBy_21 rfl ⟨by unfold kTold; simp [*], rfl⟩
  · refine kv_aload_n dX12_toldBy_13 rfl ?_
    refine kw_Vi [] mX12_allShapes dX12_toldBy_14 lX12_109 wX12_allShapes kC12 hu rfl (by first | rfl | assumption) rfl rfl rfl (qX12_allShapes hu) (by decide) ?_
    refine kv_goto dX12_toldBy_17 21 (by decide) ?_
    exact kv_iret dX12_toldBy_21 rfl ⟨by unfold kTold; simp [*], rfl⟩

set_option maxRecDepth 20000 in
set_option maxHeartbeats 4000000 in
theorem qX12_left {w : KW} {l : Launch} {u : KMem} (hu : kWd u) (hg : kGI (u.2.1 414)) (x : Nat) (hx : x < kN (u.2.1 414) 2) : KC w l mX12_left 4 0 0 [.ref 413, .int (nI x)] u (kq (some (.int (kLeft (u.2.1 414) x))) u) := by
  refine KC.of (ls := [_, _, _, _, _]) rfl rfl (Nat.le_of_ble_eq_true rfl) ?_
  refine kv_aload_n dX12_left_0 rfl ?_
  refine kv_iload_n dX12_left_1 rfl ?_
  refine kw_Vi [_] mX12_fit dX12_left_2 lX12_122 wX12_fit kC12 hu rfl (by first | rfl | assumption) rfl rfl rfl (qX12_fit hu hg x hx) (by decide) ?_
  refine kv_istore_n (ls2 := [_, _, _, _, _]) dX12_left_5 rfl rfl rfl rfl ?_
  refine kv_iload_n dX12_left_6 rfl ?_
  refine kv_aload_n dX12_left_7 rfl ?_
  refine kv_iload_n dX12_left_8 rfl ?_
  refine kv_iconst dX12_left_9 0 ki_0 ?_
  refine kw_Vi [_, _] mX12_toldBy dX12_left_10 lX12_125 wX12_toldBy kC12 hu rfl (by first | rfl | assumption) rfl rfl rfl (qX12_toldBy hu hg x 0 hx (by decide)) (by decide) ?_
  refine kv_iand dX12_left_13 ?_
  refine kv_aload_n dX12_left_14 rfl ?_
  refine kv_iload_n dX12_left_15 rfl ?_
  refine kv_iconst dX12_left_16 1 ki_1 ?_
  refine kw_Vi [_, _] mX12_toldBy dX12_left_17 lX12_125 wX12_toldBy kC12 hu rfl (by first | rfl | assumption) rfl rfl rfl (qX12_toldBy hu hg x 1 hx (by decide)) (by decide) ?_
  refine kv_iand dX12_left_20 ?_
  refine kv_istore_n (ls2 := [_, _, _, _, _]) dX12_left_21 rfl rfl rfl rfl ?_
  refine kv_iload_n dX12_left_22 rfl ?_
  refine kv_aload_n dX12_left_23 rfl ?_
  refine kv_iload_n dX12_left_24 rfl ?_
  refine kv_iconst dX12_left_25 0 ki_0 ?_
  refine kw_Vi [_, _] mX12_toldBy dX12_left_26 lX12_125 wX12_toldBy kC12 hu rfl (by first | rfl | assumption) rfl rfl rfl (qX12_toldBy hu hg x 0 hx (by decide)) (by decide) ?_
  refine kv_aload_n dX12_left_29 rfl ?_
  refine kv_iload_n dX12_left_30 rfl ?_
  refine kv_iconst dX12_left_31 1 ki_1 ?_
  refine kw_Vi [_, _] mX12_toldBy dX12_left_32 lX12_125 wX12_toldBy kC12 hu rfl (by first | rfl | assumption) rfl rfl rfl (qX12_toldBy hu hg x 1 hx (by decide)) (by decide) ?_
  refine kv_ior dX12_left_35 ?_
  refine kv_iand dX12_left_36 ?_
  refine kv_istore (ls2 := [_, _, _, _, _]) dX12_left_37 rfl rfl rfl rfl ?_
  refine kv_iload_n dX12_left_39 rfl ?_
  refine kv_if_eq dX12_left_40 47 (by decide) (fun h1 => ?_) (fun h1 => ?_)
  · refine kv_iload dX12_left_47 rfl ?_
    refine kv_if_eq dX12_left_49 57 (by decide) (fun h2 => ?_) (fun h2 => ?_)
    · refine kv_iload_n dX12_left_57 rfl ?_
      exact kv_iret dX12_left_58 rfl ⟨by unfold kLeft; simp [*], rfl⟩
    · refine kv_iload dX12_left_52 rfl ?_
      refine kv_goto dX12_left_54 58 (by decide) ?_
      exact kv_iret dX12_left_58 rfl ⟨by unfold kLeft; simp [*], rfl⟩
  · refine kv_iload_n dX12_left_43 rfl ?_
    refine kv_goto dX12_left_44 58 (by decide) ?_
    exact kv_iret dX12_left_58 rfl ⟨by unfold kLeft; simp [*], rfl⟩

set_option maxRecDepth 20000 in
set_option maxHeartbeats 4000000 in
theorem qX12_end0 {w : KW} {l : Launch} {u : KMem} (hu : kWd u) (hg : kGI (u.2.1 414)) (left : Int32) : KC w l mX12_end 1 0 0 [.ref 413, .int left, .int 0] u (kq (some (.int (kEnd (u.2.1 414) left 0))) u) := by
  have hn := hg.cnt (k := 1) rfl
  have hn2 := hn.2
  refine KC.of (ls := [_, _, _, _, _, _]) rfl rfl (Nat.le_of_ble_eq_true rfl) ?_
  refine kv_iload_n dX12_end_0 rfl ?_
  refine kv_if_eq dX12_end_1 8 (by decide) (fun h1 => ?_) (fun h1 => ?_)
  · refine kv_bipush dX12_end_8 101 kb_101 ?_
    refine kv_istore_n (ls2 := [_, _, _, _, _, _]) dX12_end_10 rfl rfl rfl rfl ?_
    refine kv_iconst dX12_end_11 0 ki_0 ?_
    refine kv_istore (ls2 := [_, _, _, _, _, _]) dX12_end_12 rfl rfl rfl rfl ?_
    refine KV.loc (ls2 := [some (.ref 413), some (.int left), some (.int 0), some (.int (kEndA (u.2.1 414) left 0 0)), some (.int (nI 0)), none]) ?_ (ksS (by first | rfl | (simp only [kEndA, Nat.one_ne_zero, *, eq_self, and_self, and_true, true_and, and_false, false_and, or_true, true_or, or_false, false_or, not_true_eq_false, not_false_eq_true, ne_eq, ↓reduceIte, Nat.succ_ne_self, reduceCtorEq]; done)) (ksS (by first | rfl | (simp only [kEndA, Nat.one_ne_zero, *, eq_self, and_self, and_true, true_and, and_false, false_and, or_true, true_or, or_false, false_or, not_true_eq_false, not_false_eq_true, ne_eq, ↓reduceIte, Nat.succ_ne_self, reduceCtorEq]; done)) (ksS (by first | rfl | (simp only [kEndA, Nat.one_ne_zero, *, eq_self, and_self, and_true, true_and, and_false, false_and, or_true, true_or, or_false, false_or, not_true_eq_false, not_false_eq_true, ne_eq, ↓reduceIte, Nat.succ_ne_self, reduceCtorEq]; done)) (ksS (by first | rfl | (simp only [kEndA, Nat.one_ne_zero, *, eq_self, and_self, and_true, true_and, and_false, false_and, or_true, true_or, or_false, false_or, not_true_eq_false, not_false_eq_true, ne_eq, ↓reduceIte, Nat.succ_ne_self, reduceCtorEq]; done)) (ksS (by first | rfl | (simp only [kEndA, Nat.one_ne_zero, *, eq_self, and_self, and_true, true_and, and_false, false_and, or_true, true_or, or_false, false_or, not_true_eq_false, not_false_eq_true, ne_eq, ↓reduceIte, Nat.succ_ne_self, reduceCtorEq]; done)) (ks0 ksN))))))
    refine kn_loop (P := fun i => KV w l mX12_end 1 0 0 14 [some (.ref 413), some (.int left), some (.int 0), some (.int (kEndA (u.2.1 414) left 0 i)), some (.int (nI i)), none] [] u (kq (some (.int (kEnd (u.2.1 414) left 0))) u)) (kN (u.2.1 414) 1) ?_ (fun i hi ih => ?_)
    · refine kv_iload dX12_end_14 rfl ?_
      refine kv_aload_n dX12_end_16 rfl ?_
      refine kw_gR dX12_end_17 fX12_9 hu (by first | rfl | assumption) rfl rfl (by first | rfl | assumption) ?_
      refine kv_iconst dX12_end_20 1 ki_1 ?_
      refine kw_il dX12_end_21 hu (by first | rfl | assumption) (_) (show (1 : Int32) = nI 1 from rfl) (by omega) rfl ?_
      rw [hn.1]
      refine kv_icmp_ge dX12_end_22 83 (by decide) (fun h2 => ?_) (fun h2 => ?_)
      · refine kv_iload_n dX12_end_83 rfl ?_
        refine kv_if_ne dX12_end_84 100 (by decide) (fun h3 => ?_) (fun h3 => ?_)
        · refine kv_iload_n dX12_end_100 rfl ?_
          exact kv_iret dX12_end_101 rfl ⟨by unfold kEnd; simp only [Nat.one_ne_zero, *, eq_self, and_self, and_true, true_and, and_false, false_and, or_true, true_or, or_false, false_or, not_true_eq_false, not_false_eq_true, ne_eq, ↓reduceIte, Nat.succ_ne_self, reduceCtorEq], rfl⟩
        · refine kv_iload_n dX12_end_87 rfl ?_
          refine kv_if_eq dX12_end_88 96 (by decide) (fun h4 => ?_) (fun h4 => ?_)
          · refine kv_iconst dX12_end_96 0 ki_0 ?_
            refine kv_goto dX12_end_97 101 (by decide) ?_
            exact kv_iret dX12_end_101 rfl ⟨by unfold kEnd; simp only [Nat.one_ne_zero, *, eq_self, and_self, and_true, true_and, and_false, false_and, or_true, true_or, or_false, false_or, not_true_eq_false, not_false_eq_true, ne_eq, ↓reduceIte, Nat.succ_ne_self, reduceCtorEq], rfl⟩
          · exact absurd rfl h4
      · exact (kn_nge h2).elim
    · refine kv_iload dX12_end_14 rfl ?_
      refine kv_aload_n dX12_end_16 rfl ?_
      refine kw_gR dX12_end_17 fX12_9 hu (by first | rfl | assumption) rfl rfl (by first | rfl | assumption) ?_
      refine kv_iconst dX12_end_20 1 ki_1 ?_
      refine kw_il dX12_end_21 hu (by first | rfl | assumption) (_) (show (1 : Int32) = nI 1 from rfl) (by omega) rfl ?_
      rw [hn.1]
      refine kv_icmp_ge dX12_end_22 83 (by decide) (fun h5 => ?_) (fun h5 => ?_)
      · exact absurd h5 (kn_ge (n := kN (u.2.1 414) 1) hi (by omega))
      · refine kv_aload_n dX12_end_25 rfl ?_
        refine kw_gR dX12_end_26 fX12_9 hu (by first | rfl | assumption) rfl rfl (by first | rfl | assumption) ?_
        refine kv_sipush dX12_end_29 280 kz_280 ?_
        refine kv_iconst dX12_end_32 3 ki_3 ?_
        refine kv_iload dX12_end_33 rfl ?_
        refine kv_imul dX12_end_35 ?_
        refine kv_iadd dX12_end_36 ?_
        refine kv_iconst dX12_end_37 2 ki_2 ?_
        refine kv_iadd dX12_end_38 ?_
        refine kw_il dX12_end_39 hu (by first | rfl | assumption) (_) (kn_add (kn_add (show (280 : Int32) = nI 280 from rfl) (kn_mul (show (3 : Int32) = nI 3 from rfl) rfl)) (show (2 : Int32) = nI 2 from rfl)) (by omega) rfl ?_
        refine kv_istore (ls2 := [_, _, _, _, _, _]) dX12_end_40 rfl rfl rfl rfl ?_
        refine kv_iload_n dX12_end_42 rfl ?_
        refine kv_iload dX12_end_43 rfl ?_
        refine kw_Si [_, _] mX12_has dX12_end_45 lX12_128 wX12_has rfl rfl rfl (qX12_has hu _ _) (by decide) ?_
        refine kw_beq dX12_end_48 75 (by decide) (fun h6 => ?_) (fun h6 => ?_)
        · refine kv_iload_n dX12_end_75 rfl ?_
          refine kv_istore_n (ls2 := [_, _, _, _, _, _]) dX12_end_76 rfl rfl rfl rfl ?_
          refine kv_iinc (ls2 := [_, _, _, _, _, _]) dX12_end_77 (nI (i + 1)) rfl (kv_inc1 i) rfl rfl rfl rfl ?_
          refine kv_goto dX12_end_80 14 (by decide) ?_
          exact KV.loc ih (ksS (by first | rfl | (simp only [kEndA, Nat.one_ne_zero, *, eq_self, and_self, and_true, true_and, and_false, false_and, or_true, true_or, or_false, false_or, not_true_eq_false, not_false_eq_true, ne_eq, ↓reduceIte, Nat.succ_ne_self, reduceCtorEq]; done)) (ksS (by first | rfl | (simp only [kEndA, Nat.one_ne_zero, *, eq_self, and_self, and_true, true_and, and_false, false_and, or_true, true_or, or_false, false_or, not_true_eq_false, not_false_eq_true, ne_eq, ↓reduceIte, Nat.succ_ne_self, reduceCtorEq]; done)) (ksS (by first | rfl | (simp only [kEndA, Nat.one_ne_zero, *, eq_self, and_self, and_true, true_and, and_false, false_and, or_true, true_or, or_false, false_or, not_true_eq_false, not_false_eq_true, ne_eq, ↓reduceIte, Nat.succ_ne_self, reduceCtorEq]; done)) (ksS (by first | rfl | (simp only [kEndA, Nat.one_ne_zero, *, eq_self, and_self, and_true, true_and, and_false, false_and, or_true, true_or, or_false, false_or, not_true_eq_false, not_false_eq_true, ne_eq, ↓reduceIte, Nat.succ_ne_self, reduceCtorEq]; done)) (ksS (by first | rfl | (simp only [kEndA, Nat.one_ne_zero, *, eq_self, and_self, and_true, true_and, and_false, false_and, or_true, true_or, or_false, false_or, not_true_eq_false, not_false_eq_true, ne_eq, ↓reduceIte, Nat.succ_ne_self, reduceCtorEq]; done)) (ks0 ksN))))))
        · refine kv_iload_n dX12_end_51 rfl ?_
          refine kv_if_eq dX12_end_52 64 (by decide) (fun h7 => ?_) (fun h7 => ?_)
          · refine kv_iload dX12_end_64 rfl ?_
            refine kv_iload_n dX12_end_66 rfl ?_
            refine kv_icmp_ge dX12_end_67 75 (by decide) (fun h8 => ?_) (fun h8 => ?_)
            · refine kv_iload_n dX12_end_75 rfl ?_
              refine kv_istore_n (ls2 := [_, _, _, _, _, _]) dX12_end_76 rfl rfl rfl rfl ?_
              refine kv_iinc (ls2 := [_, _, _, _, _, _]) dX12_end_77 (nI (i + 1)) rfl (kv_inc1 i) rfl rfl rfl rfl ?_
              refine kv_goto dX12_end_80 14 (by decide) ?_
              exact KV.loc ih (ksS (by first | rfl | (simp only [kEndA, Nat.one_ne_zero, *, eq_self, and_self, and_true, true_and, and_false, false_and, or_true, true_or, or_false, false_or, not_true_eq_false, not_false_eq_true, ne_eq, ↓reduceIte, Nat.succ_ne_self, reduceCtorEq]; done)) (ksS (by first | rfl | (simp only [kEndA, Nat.one_ne_zero, *, eq_self, and_self, and_true, true_and, and_false, false_and, or_true, true_or, or_false, false_or, not_true_eq_false, not_false_eq_true, ne_eq, ↓reduceIte, Nat.succ_ne_self, reduceCtorEq]; done)) (ksS (by first | rfl | (simp only [kEndA, Nat.one_ne_zero, *, eq_self, and_self, and_true, true_and, and_false, false_and, or_true, true_or, or_false, false_or, not_true_eq_false, not_false_eq_true, ne_eq, ↓reduceIte, Nat.succ_ne_self, reduceCtorEq]; done)) (ksS (by first | rfl | (simp only [kEndA, Nat.one_ne_zero, *, eq_self, and_self, and_true, true_and, and_false, false_and, or_true, true_or, or_false, false_or, not_true_eq_false, not_false_eq_true, ne_eq, ↓reduceIte, Nat.succ_ne_self, reduceCtorEq]; done)) (ksS (by first | rfl | (simp only [kEndA, Nat.one_ne_zero, *, eq_self, and_self, and_true, true_and, and_false, false_and, or_true, true_or, or_false, false_or, not_true_eq_false, not_false_eq_true, ne_eq, ↓reduceIte, Nat.succ_ne_self, reduceCtorEq]; done)) (ks0 ksN))))))
            · refine kv_iload dX12_end_70 rfl ?_
              refine kv_goto dX12_end_72 76 (by decide) ?_
              refine kv_istore_n (ls2 := [_, _, _, _, _, _]) dX12_end_76 rfl rfl rfl rfl ?_
              refine kv_iinc (ls2 := [_, _, _, _, _, _]) dX12_end_77 (nI (i + 1)) rfl (kv_inc1 i) rfl rfl rfl rfl ?_
              refine kv_goto dX12_end_80 14 (by decide) ?_
              exact KV.loc ih (ksS (by first | rfl | (simp only [kEndA, Nat.one_ne_zero, *, eq_self, and_self, and_true, true_and, and_false, false_and, or_true, true_or, or_false, false_or, not_true_eq_false, not_false_eq_true, ne_eq, ↓reduceIte, Nat.succ_ne_self, reduceCtorEq]; done)) (ksS (by first | rfl | (simp only [kEndA, Nat.one_ne_zero, *, eq_self, and_self, and_true, true_and, and_false, false_and, or_true, true_or, or_false, false_or, not_true_eq_false, not_false_eq_true, ne_eq, ↓reduceIte, Nat.succ_ne_self, reduceCtorEq]; done)) (ksS (by first | rfl | (simp only [kEndA, Nat.one_ne_zero, *, eq_self, and_self, and_true, true_and, and_false, false_and, or_true, true_or, or_false, false_or, not_true_eq_false, not_false_eq_true, ne_eq, ↓reduceIte, Nat.succ_ne_self, reduceCtorEq]; done)) (ksS (by first | rfl | (simp only [kEndA, Nat.one_ne_zero, *, eq_self, and_self, and_true, true_and, and_false, false_and, or_true, true_or, or_false, false_or, not_true_eq_false, not_false_eq_true, ne_eq, ↓reduceIte, Nat.succ_ne_self, reduceCtorEq]; done)) (ksS (by first | rfl | (simp only [kEndA, Nat.one_ne_zero, *, eq_self, and_self, and_true, true_and, and_false, false_and, or_true, true_or, or_false, false_or, not_true_eq_false, not_false_eq_true, ne_eq, ↓reduceIte, Nat.succ_ne_self, reduceCtorEq]; done)) (ks0 ksN))))))
          · exact absurd rfl h7
  · exact absurd rfl h1

set_option maxRecDepth 20000 in
set_option maxHeartbeats 4000000 in
theorem qX12_end1 {w : KW} {l : Launch} {u : KMem} (hu : kWd u) (hg : kGI (u.2.1 414)) (left : Int32) : KC w l mX12_end 1 0 0 [.ref 413, .int left, .int 1] u (kq (some (.int (kEnd (u.2.1 414) left 1))) u) := by
  have hn := hg.cnt (k := 1) rfl
  have hn2 := hn.2
  refine KC.of (ls := [_, _, _, _, _, _]) rfl rfl (Nat.le_of_ble_eq_true rfl) ?_
  refine kv_iload_n dX12_end_0 rfl ?_
  refine kv_if_eq dX12_end_1 8 (by decide) (fun h1 => ?_) (fun h1 => ?_)
  · exact absurd h1 (by decide)
  · refine kv_iconst dX12_end_4 (-1) ki_m1 ?_
    refine kv_goto dX12_end_5 10 (by decide) ?_
    refine kv_istore_n (ls2 := [_, _, _, _, _, _]) dX12_end_10 rfl rfl rfl rfl ?_
    refine kv_iconst dX12_end_11 0 ki_0 ?_
    refine kv_istore (ls2 := [_, _, _, _, _, _]) dX12_end_12 rfl rfl rfl rfl ?_
    refine KV.loc (ls2 := [some (.ref 413), some (.int left), some (.int 1), some (.int (kEndA (u.2.1 414) left 1 0)), some (.int (nI 0)), none]) ?_ (ksS (by first | rfl | (simp only [kEndA, Nat.one_ne_zero, *, eq_self, and_self, and_true, true_and, and_false, false_and, or_true, true_or, or_false, false_or, not_true_eq_false, not_false_eq_true, ne_eq, ↓reduceIte, Nat.succ_ne_self, reduceCtorEq]; done)) (ksS (by first | rfl | (simp only [kEndA, Nat.one_ne_zero, *, eq_self, and_self, and_true, true_and, and_false, false_and, or_true, true_or, or_false, false_or, not_true_eq_false, not_false_eq_true, ne_eq, ↓reduceIte, Nat.succ_ne_self, reduceCtorEq]; done)) (ksS (by first | rfl | (simp only [kEndA, Nat.one_ne_zero, *, eq_self, and_self, and_true, true_and, and_false, false_and, or_true, true_or, or_false, false_or, not_true_eq_false, not_false_eq_true, ne_eq, ↓reduceIte, Nat.succ_ne_self, reduceCtorEq]; done)) (ksS (by first | rfl | (simp only [kEndA, Nat.one_ne_zero, *, eq_self, and_self, and_true, true_and, and_false, false_and, or_true, true_or, or_false, false_or, not_true_eq_false, not_false_eq_true, ne_eq, ↓reduceIte, Nat.succ_ne_self, reduceCtorEq]; done)) (ksS (by first | rfl | (simp only [kEndA, Nat.one_ne_zero, *, eq_self, and_self, and_true, true_and, and_false, false_and, or_true, true_or, or_false, false_or, not_true_eq_false, not_false_eq_true, ne_eq, ↓reduceIte, Nat.succ_ne_self, reduceCtorEq]; done)) (ks0 ksN))))))
    refine kn_loop (P := fun i => KV w l mX12_end 1 0 0 14 [some (.ref 413), some (.int left), some (.int 1), some (.int (kEndA (u.2.1 414) left 1 i)), some (.int (nI i)), none] [] u (kq (some (.int (kEnd (u.2.1 414) left 1))) u)) (kN (u.2.1 414) 1) ?_ (fun i hi ih => ?_)
    · refine kv_iload dX12_end_14 rfl ?_
      refine kv_aload_n dX12_end_16 rfl ?_
      refine kw_gR dX12_end_17 fX12_9 hu (by first | rfl | assumption) rfl rfl (by first | rfl | assumption) ?_
      refine kv_iconst dX12_end_20 1 ki_1 ?_
      refine kw_il dX12_end_21 hu (by first | rfl | assumption) (_) (show (1 : Int32) = nI 1 from rfl) (by omega) rfl ?_
      rw [hn.1]
      refine kv_icmp_ge dX12_end_22 83 (by decide) (fun h2 => ?_) (fun h2 => ?_)
      · refine kv_iload_n dX12_end_83 rfl ?_
        refine kv_if_ne dX12_end_84 100 (by decide) (fun h3 => ?_) (fun h3 => ?_)
        · refine kv_iload_n dX12_end_100 rfl ?_
          exact kv_iret dX12_end_101 rfl ⟨by unfold kEnd; simp only [Nat.one_ne_zero, *, eq_self, and_self, and_true, true_and, and_false, false_and, or_true, true_or, or_false, false_or, not_true_eq_false, not_false_eq_true, ne_eq, ↓reduceIte, Nat.succ_ne_self, reduceCtorEq], rfl⟩
        · refine kv_iload_n dX12_end_87 rfl ?_
          refine kv_if_eq dX12_end_88 96 (by decide) (fun h4 => ?_) (fun h4 => ?_)
          · exact absurd h4 (by decide)
          · refine kv_bipush dX12_end_91 100 kb_100 ?_
            refine kv_goto dX12_end_93 101 (by decide) ?_
            exact kv_iret dX12_end_101 rfl ⟨by unfold kEnd; simp only [Nat.one_ne_zero, *, eq_self, and_self, and_true, true_and, and_false, false_and, or_true, true_or, or_false, false_or, not_true_eq_false, not_false_eq_true, ne_eq, ↓reduceIte, Nat.succ_ne_self, reduceCtorEq], rfl⟩
      · exact (kn_nge h2).elim
    · refine kv_iload dX12_end_14 rfl ?_
      refine kv_aload_n dX12_end_16 rfl ?_
      refine kw_gR dX12_end_17 fX12_9 hu (by first | rfl | assumption) rfl rfl (by first | rfl | assumption) ?_
      refine kv_iconst dX12_end_20 1 ki_1 ?_
      refine kw_il dX12_end_21 hu (by first | rfl | assumption) (_) (show (1 : Int32) = nI 1 from rfl) (by omega) rfl ?_
      rw [hn.1]
      refine kv_icmp_ge dX12_end_22 83 (by decide) (fun h5 => ?_) (fun h5 => ?_)
      · exact absurd h5 (kn_ge (n := kN (u.2.1 414) 1) hi (by omega))
      · refine kv_aload_n dX12_end_25 rfl ?_
        refine kw_gR dX12_end_26 fX12_9 hu (by first | rfl | assumption) rfl rfl (by first | rfl | assumption) ?_
        refine kv_sipush dX12_end_29 280 kz_280 ?_
        refine kv_iconst dX12_end_32 3 ki_3 ?_
        refine kv_iload dX12_end_33 rfl ?_
        refine kv_imul dX12_end_35 ?_
        refine kv_iadd dX12_end_36 ?_
        refine kv_iconst dX12_end_37 2 ki_2 ?_
        refine kv_iadd dX12_end_38 ?_
        refine kw_il dX12_end_39 hu (by first | rfl | assumption) (_) (kn_add (kn_add (show (280 : Int32) = nI 280 from rfl) (kn_mul (show (3 : Int32) = nI 3 from rfl) rfl)) (show (2 : Int32) = nI 2 from rfl)) (by omega) rfl ?_
        refine kv_istore (ls2 := [_, _, _, _, _, _]) dX12_end_40 rfl rfl rfl rfl ?_
        refine kv_iload_n dX12_end_42 rfl ?_
        refine kv_iload dX12_end_43 rfl ?_
        refine kw_Si [_, _] mX12_has dX12_end_45 lX12_128 wX12_has rfl rfl rfl (qX12_has hu _ _) (by decide) ?_
        refine kw_beq dX12_end_48 75 (by decide) (fun h6 => ?_) (fun h6 => ?_)
        · refine kv_iload_n dX12_end_75 rfl ?_
          refine kv_istore_n (ls2 := [_, _, _, _, _, _]) dX12_end_76 rfl rfl rfl rfl ?_
          refine kv_iinc (ls2 := [_, _, _, _, _, _]) dX12_end_77 (nI (i + 1)) rfl (kv_inc1 i) rfl rfl rfl rfl ?_
          refine kv_goto dX12_end_80 14 (by decide) ?_
          exact KV.loc ih (ksS (by first | rfl | (simp only [kEndA, Nat.one_ne_zero, *, eq_self, and_self, and_true, true_and, and_false, false_and, or_true, true_or, or_false, false_or, not_true_eq_false, not_false_eq_true, ne_eq, ↓reduceIte, Nat.succ_ne_self, reduceCtorEq]; done)) (ksS (by first | rfl | (simp only [kEndA, Nat.one_ne_zero, *, eq_self, and_self, and_true, true_and, and_false, false_and, or_true, true_or, or_false, false_or, not_true_eq_false, not_false_eq_true, ne_eq, ↓reduceIte, Nat.succ_ne_self, reduceCtorEq]; done)) (ksS (by first | rfl | (simp only [kEndA, Nat.one_ne_zero, *, eq_self, and_self, and_true, true_and, and_false, false_and, or_true, true_or, or_false, false_or, not_true_eq_false, not_false_eq_true, ne_eq, ↓reduceIte, Nat.succ_ne_self, reduceCtorEq]; done)) (ksS (by first | rfl | (simp only [kEndA, Nat.one_ne_zero, *, eq_self, and_self, and_true, true_and, and_false, false_and, or_true, true_or, or_false, false_or, not_true_eq_false, not_false_eq_true, ne_eq, ↓reduceIte, Nat.succ_ne_self, reduceCtorEq]; done)) (ksS (by first | rfl | (simp only [kEndA, Nat.one_ne_zero, *, eq_self, and_self, and_true, true_and, and_false, false_and, or_true, true_or, or_false, false_or, not_true_eq_false, not_false_eq_true, ne_eq, ↓reduceIte, Nat.succ_ne_self, reduceCtorEq]; done)) (ks0 ksN))))))
        · refine kv_iload_n dX12_end_51 rfl ?_
          refine kv_if_eq dX12_end_52 64 (by decide) (fun h7 => ?_) (fun h7 => ?_)
          · exact absurd h7 (by decide)
          · refine kv_iload dX12_end_55 rfl ?_
            refine kv_iload_n dX12_end_57 rfl ?_
            refine kv_icmp_le dX12_end_58 75 (by decide) (fun h8 => ?_) (fun h8 => ?_)
            · refine kv_iload_n dX12_end_75 rfl ?_
              refine kv_istore_n (ls2 := [_, _, _, _, _, _]) dX12_end_76 rfl rfl rfl rfl ?_
              refine kv_iinc (ls2 := [_, _, _, _, _, _]) dX12_end_77 (nI (i + 1)) rfl (kv_inc1 i) rfl rfl rfl rfl ?_
              refine kv_goto dX12_end_80 14 (by decide) ?_
              exact KV.loc ih (ksS (by first | rfl | (simp only [kEndA, Nat.one_ne_zero, *, eq_self, and_self, and_true, true_and, and_false, false_and, or_true, true_or, or_false, false_or, not_true_eq_false, not_false_eq_true, ne_eq, ↓reduceIte, Nat.succ_ne_self, reduceCtorEq]; done)) (ksS (by first | rfl | (simp only [kEndA, Nat.one_ne_zero, *, eq_self, and_self, and_true, true_and, and_false, false_and, or_true, true_or, or_false, false_or, not_true_eq_false, not_false_eq_true, ne_eq, ↓reduceIte, Nat.succ_ne_self, reduceCtorEq]; done)) (ksS (by first | rfl | (simp only [kEndA, Nat.one_ne_zero, *, eq_self, and_self, and_true, true_and, and_false, false_and, or_true, true_or, or_false, false_or, not_true_eq_false, not_false_eq_true, ne_eq, ↓reduceIte, Nat.succ_ne_self, reduceCtorEq]; done)) (ksS (by first | rfl | (simp only [kEndA, Nat.one_ne_zero, *, eq_self, and_self, and_true, true_and, and_false, false_and, or_true, true_or, or_false, false_or, not_true_eq_false, not_false_eq_true, ne_eq, ↓reduceIte, Nat.succ_ne_self, reduceCtorEq]; done)) (ksS (by first | rfl | (simp only [kEndA, Nat.one_ne_zero, *, eq_self, and_self, and_true, true_and, and_false, false_and, or_true, true_or, or_false, false_or, not_true_eq_false, not_false_eq_true, ne_eq, ↓reduceIte, Nat.succ_ne_self, reduceCtorEq]; done)) (ks0 ksN))))))
            · refine kv_goto dX12_end_61 70 (by decide) ?_
              refine kv_iload dX12_end_70 rfl ?_
              refine kv_goto dX12_end_72 76 (by decide) ?_
              refine kv_istore_n (ls2 := [_, _, _, _, _, _]) dX12_end_76 rfl rfl rfl rfl ?_
              refine kv_iinc (ls2 := [_, _, _, _, _, _]) dX12_end_77 (nI (i + 1)) rfl (kv_inc1 i) rfl rfl rfl rfl ?_
              refine kv_goto dX12_end_80 14 (by decide) ?_
              exact KV.loc ih (ksS (by first | rfl | (simp only [kEndA, Nat.one_ne_zero, *, eq_self, and_self, and_true, true_and, and_false, false_and, or_true, true_or, or_false, false_or, not_true_eq_false, not_false_eq_true, ne_eq, ↓reduceIte, Nat.succ_ne_self, reduceCtorEq]; done)) (ksS (by first | rfl | (simp only [kEndA, Nat.one_ne_zero, *, eq_self, and_self, and_true, true_and, and_false, false_and, or_true, true_or, or_false, false_or, not_true_eq_false, not_false_eq_true, ne_eq, ↓reduceIte, Nat.succ_ne_self, reduceCtorEq]; done)) (ksS (by first | rfl | (simp only [kEndA, Nat.one_ne_zero, *, eq_self, and_self, and_true, true_and, and_false, false_and, or_true, true_or, or_false, false_or, not_true_eq_false, not_false_eq_true, ne_eq, ↓reduceIte, Nat.succ_ne_self, reduceCtorEq]; done)) (ksS (by first | rfl | (simp only [kEndA, Nat.one_ne_zero, *, eq_self, and_self, and_true, true_and, and_false, false_and, or_true, true_or, or_false, false_or, not_true_eq_false, not_false_eq_true, ne_eq, ↓reduceIte, Nat.succ_ne_self, reduceCtorEq]; done)) (ksS (by first | rfl | (simp only [kEndA, Nat.one_ne_zero, *, eq_self, and_self, and_true, true_and, and_false, false_and, or_true, true_or, or_false, false_or, not_true_eq_false, not_false_eq_true, ne_eq, ↓reduceIte, Nat.succ_ne_self, reduceCtorEq]; done)) (ks0 ksN))))))

set_option maxRecDepth 20000 in
set_option maxHeartbeats 4000000 in
theorem qX12_bookOf {w : KW} {l : Launch} {u : KMem} (hu : kWd u) (hg : kGI (u.2.1 414)) (c : Nat) (hc : c < kN (u.2.1 414) 0) : KC w l mX12_bookOf 1 0 0 [.ref 413, .int (nI c)] u (kq (some (.int (kBook (u.2.1 414) c))) u) := by
  have hc30 := (hg.cnt (k := 0) rfl).2
  have hy : (u.2.1 414) (40 + 8 * c + 2) = nI (kN (u.2.1 414) (40 + 8 * c + 2)) ∧ kN (u.2.1 414) (40 + 8 * c + 2) ≤ 20 := (hg.2.2.2.1 c hc).2.2.1.n (by omega)
  have hy2 := hy.2
  refine KC.of (ls := [_, _, _, _]) rfl rfl (Nat.le_of_ble_eq_true rfl) ?_
  refine kv_aload_n dX12_bookOf_0 rfl ?_
  refine kv_iload_n dX12_bookOf_1 rfl ?_
  refine kv_iconst dX12_bookOf_2 1 ki_1 ?_
  refine kw_Vi [_, _] mX12_car dX12_bookOf_3 lX12_89 wX12_car kC12 hu rfl (by first | rfl | assumption) rfl rfl rfl (qX12_car hu c 1 (by omega) (by decide)) (by decide) ?_
  refine kv_istore_n (ls2 := [_, _, _, _]) dX12_bookOf_6 rfl rfl rfl rfl ?_
  refine kv_iconst dX12_bookOf_7 0 ki_0 ?_
  refine kv_istore_n (ls2 := [_, _, _, _]) dX12_bookOf_8 rfl rfl rfl rfl ?_
  refine KV.loc (ls2 := [some (.ref 413), some (.int (nI c)), some (.int (kBookA (u.2.1 414) c 0)), some (.int (nI 0))]) ?_ (ksS rfl (ksS rfl (ksS rfl (ksS rfl ksN))))
  refine kn_loop (P := fun i => KV w l mX12_bookOf 1 0 0 9 [some (.ref 413), some (.int (nI c)), some (.int (kBookA (u.2.1 414) c i)), some (.int (nI i))] [] u (kq (some (.int (kBook (u.2.1 414) c))) u)) (kN (u.2.1 414) (40 + 8 * c + 2)) ?_ (fun i hi ih => ?_)
  · refine kv_iload_n dX12_bookOf_9 rfl ?_
    refine kv_aload_n dX12_bookOf_10 rfl ?_
    refine kv_iload_n dX12_bookOf_11 rfl ?_
    refine kv_iconst dX12_bookOf_12 2 ki_2 ?_
    refine kw_Vi [_, _] mX12_car dX12_bookOf_13 lX12_89 wX12_car kC12 hu rfl (by first | rfl | assumption) rfl rfl rfl (qX12_car hu c 2 (by omega) (by decide)) (by decide) ?_
    rw [hy.1]
    refine kv_icmp_ge dX12_bookOf_16 41 (by decide) (fun h1 => ?_) (fun h1 => ?_)
    · refine kv_iload_n dX12_bookOf_41 rfl ?_
      exact kv_iret dX12_bookOf_42 rfl ⟨rfl, rfl⟩
    · exact (kn_nge h1).elim
  · refine kv_iload_n dX12_bookOf_9 rfl ?_
    refine kv_aload_n dX12_bookOf_10 rfl ?_
    refine kv_iload_n dX12_bookOf_11 rfl ?_
    refine kv_iconst dX12_bookOf_12 2 ki_2 ?_
    refine kw_Vi [_, _] mX12_car dX12_bookOf_13 lX12_89 wX12_car kC12 hu rfl (by first | rfl | assumption) rfl rfl rfl (qX12_car hu c 2 (by omega) (by decide)) (by decide) ?_
    rw [hy.1]
    refine kv_icmp_ge dX12_bookOf_16 41 (by decide) (fun h2 => ?_) (fun h2 => ?_)
    · exact absurd h2 (kn_ge (n := kN (u.2.1 414) (40 + 8 * c + 2)) hi (by omega))
    · refine kv_iload_n dX12_bookOf_19 rfl ?_
      refine kv_bipush dX12_bookOf_20 100 kb_100 ?_
      refine kv_aload_n dX12_bookOf_22 rfl ?_
      refine kw_gR dX12_bookOf_23 fX12_9 hu (by first | rfl | assumption) rfl rfl (by first | rfl | assumption) ?_
      refine kv_bipush dX12_bookOf_26 9 kb_9 ?_
      refine kw_il dX12_bookOf_28 hu (by first | rfl | assumption) (_) (show (9 : Int32) = nI 9 from rfl) (by omega) rfl ?_
      refine kv_isub dX12_bookOf_29 ?_
      refine kv_imul dX12_bookOf_30 ?_
      refine kv_bipush dX12_bookOf_31 100 kb_100 ?_
      refine kv_idiv dX12_bookOf_33 (by decide) ?_
      refine kv_istore_n (ls2 := [_, _, _, _]) dX12_bookOf_34 rfl rfl rfl rfl ?_
      refine kv_iinc (ls2 := [_, _, _, _]) dX12_bookOf_35 (nI (i + 1)) rfl (kv_inc1 i) rfl rfl rfl rfl ?_
      refine kv_goto dX12_bookOf_38 9 (by decide) ?_
      exact KV.loc ih (ksS rfl (ksS rfl (ksS rfl (ksS rfl ksN))))

set_option maxRecDepth 20000 in
set_option maxHeartbeats 4000000 in
theorem qX12_inForce {w : KW} {l : Launch} {u : KMem} (hu : kWd u) (hg : kGI (u.2.1 414)) (p0 p1 : Int32) : KC w l mX12_inForce 0 0 0 [.ref 413, .int p0, .int p1] u (kq (some (.int (kInF (u.2.1 414) p0 p1 (kN (u.2.1 414) 3)))) u) := by
  have hn := hg.cnt (k := 3) rfl
  have hn2 := hn.2
  refine KC.of (ls := [_, _, _, _, _]) rfl rfl (Nat.le_of_ble_eq_true rfl) ?_
  refine kv_iconst dX12_inForce_0 (-1) ki_m1 ?_
  refine kv_istore_n (ls2 := [_, _, _, _, _]) dX12_inForce_1 rfl rfl rfl rfl ?_
  refine kv_iconst dX12_inForce_2 0 ki_0 ?_
  refine kv_istore (ls2 := [_, _, _, _, _]) dX12_inForce_3 rfl rfl rfl rfl ?_
  refine KV.loc (ls2 := [some (.ref 413), some (.int p0), some (.int p1), some (.int (kInF (u.2.1 414) p0 p1 0)), some (.int (nI 0))]) ?_ (ksS (by first | rfl | (simp only [kInF, *, eq_self, and_self, and_true, true_and, and_false, false_and, or_true, true_or, or_false, false_or, not_true_eq_false, not_false_eq_true, ne_eq, ↓reduceIte, Nat.succ_ne_self, reduceCtorEq]; done)) (ksS (by first | rfl | (simp only [kInF, *, eq_self, and_self, and_true, true_and, and_false, false_and, or_true, true_or, or_false, false_or, not_true_eq_false, not_false_eq_true, ne_eq, ↓reduceIte, Nat.succ_ne_self, reduceCtorEq]; done)) (ksS (by first | rfl | (simp only [kInF, *, eq_self, and_self, and_true, true_and, and_false, false_and, or_true, true_or, or_false, false_or, not_true_eq_false, not_false_eq_true, ne_eq, ↓reduceIte, Nat.succ_ne_self, reduceCtorEq]; done)) (ksS (by first | rfl | (simp only [kInF, *, eq_self, and_self, and_true, true_and, and_false, false_and, or_true, true_or, or_false, false_or, not_true_eq_false, not_false_eq_true, ne_eq, ↓reduceIte, Nat.succ_ne_self, reduceCtorEq]; done)) (ksS (by first | rfl | (simp only [kInF, *, eq_self, and_self, and_true, true_and, and_false, false_and, or_true, true_or, or_false, false_or, not_true_eq_false, not_false_eq_true, ne_eq, ↓reduceIte, Nat.succ_ne_self, reduceCtorEq]; done)) ksN)))))
  refine kn_loop (P := fun i => KV w l mX12_inForce 0 0 0 5 [some (.ref 413), some (.int p0), some (.int p1), some (.int (kInF (u.2.1 414) p0 p1 i)), some (.int (nI i))] [] u (kq (some (.int (kInF (u.2.1 414) p0 p1 (kN (u.2.1 414) 3)))) u)) (kN (u.2.1 414) 3) ?_ (fun i hi ih => ?_)
  · refine kv_iload dX12_inForce_5 rfl ?_
    refine kv_aload_n dX12_inForce_7 rfl ?_
    refine kw_gR dX12_inForce_8 fX12_9 hu (by first | rfl | assumption) rfl rfl (by first | rfl | assumption) ?_
    refine kv_iconst dX12_inForce_11 3 ki_3 ?_
    refine kw_il dX12_inForce_12 hu (by first | rfl | assumption) (_) (show (3 : Int32) = nI 3 from rfl) (by omega) rfl ?_
    rw [hn.1]
    refine kv_icmp_ge dX12_inForce_13 67 (by decide) (fun h1 => ?_) (fun h1 => ?_)
    · refine kv_iload_n dX12_inForce_67 rfl ?_
      exact kv_iret dX12_inForce_68 rfl ⟨rfl, rfl⟩
    · exact (kn_nge h1).elim
  · refine kv_iload dX12_inForce_5 rfl ?_
    refine kv_aload_n dX12_inForce_7 rfl ?_
    refine kw_gR dX12_inForce_8 fX12_9 hu (by first | rfl | assumption) rfl rfl (by first | rfl | assumption) ?_
    refine kv_iconst dX12_inForce_11 3 ki_3 ?_
    refine kw_il dX12_inForce_12 hu (by first | rfl | assumption) (_) (show (3 : Int32) = nI 3 from rfl) (by omega) rfl ?_
    rw [hn.1]
    refine kv_icmp_ge dX12_inForce_13 67 (by decide) (fun h2 => ?_) (fun h2 => ?_)
    · exact absurd h2 (kn_ge (n := kN (u.2.1 414) 3) hi (by omega))
    · refine kv_aload_n dX12_inForce_16 rfl ?_
      refine kw_gR dX12_inForce_17 fX12_9 hu (by first | rfl | assumption) rfl rfl (by first | rfl | assumption) ?_
      refine kv_sipush dX12_inForce_20 468 kz_468 ?_
      refine kv_bipush dX12_inForce_23 66 kb_66 ?_
      refine kv_iload dX12_inForce_25 rfl ?_
      refine kv_imul dX12_inForce_27 ?_
      refine kv_iadd dX12_inForce_28 ?_
      refine kw_il dX12_inForce_29 hu (by first | rfl | assumption) (_) (kn_add (show (468 : Int32) = nI 468 from rfl) (kn_mul (show (66 : Int32) = nI 66 from rfl) rfl)) (by omega) rfl ?_
      refine kv_iload_n dX12_inForce_30 rfl ?_
      refine kv_icmp_ne dX12_inForce_31 59 (by decide) (fun h3 => ?_) (fun h3 => ?_)
      · refine kv_iload_n dX12_inForce_59 rfl ?_
        refine kv_istore_n (ls2 := [_, _, _, _, _]) dX12_inForce_60 rfl rfl rfl rfl ?_
        refine kv_iinc (ls2 := [_, _, _, _, _]) dX12_inForce_61 (nI (i + 1)) rfl (kv_inc1 i) rfl rfl rfl rfl ?_
        refine kv_goto dX12_inForce_64 5 (by decide) ?_
        exact KV.loc ih (ksS (by first | rfl | (simp only [kInF, *, eq_self, and_self, and_true, true_and, and_false, false_and, or_true, true_or, or_false, false_or, not_true_eq_false, not_false_eq_true, ne_eq, ↓reduceIte, Nat.succ_ne_self, reduceCtorEq]; done)) (ksS (by first | rfl | (simp only [kInF, *, eq_self, and_self, and_true, true_and, and_false, false_and, or_true, true_or, or_false, false_or, not_true_eq_false, not_false_eq_true, ne_eq, ↓reduceIte, Nat.succ_ne_self, reduceCtorEq]; done)) (ksS (by first | rfl | (simp only [kInF, *, eq_self, and_self, and_true, true_and, and_false, false_and, or_true, true_or, or_false, false_or, not_true_eq_false, not_false_eq_true, ne_eq, ↓reduceIte, Nat.succ_ne_self, reduceCtorEq]; done)) (ksS (by first | rfl | (simp only [kInF, *, eq_self, and_self, and_true, true_and, and_false, false_and, or_true, true_or, or_false, false_or, not_true_eq_false, not_false_eq_true, ne_eq, ↓reduceIte, Nat.succ_ne_self, reduceCtorEq]; done)) (ksS (by first | rfl | (simp only [kInF, *, eq_self, and_self, and_true, true_and, and_false, false_and, or_true, true_or, or_false, false_or, not_true_eq_false, not_false_eq_true, ne_eq, ↓reduceIte, Nat.succ_ne_self, reduceCtorEq]; done)) ksN)))))
      · refine kv_aload_n dX12_inForce_34 rfl ?_
        refine kw_gR dX12_inForce_35 fX12_9 hu (by first | rfl | assumption) rfl rfl (by first | rfl | assumption) ?_
        refine kv_sipush dX12_inForce_38 468 kz_468 ?_
        refine kv_bipush dX12_inForce_41 66 kb_66 ?_
        refine kv_iload dX12_inForce_43 rfl ?_
        refine kv_imul dX12_inForce_45 ?_
        refine kv_iadd dX12_inForce_46 ?_
        refine kv_iconst dX12_inForce_47 1 ki_1 ?_
        refine kv_iadd dX12_inForce_48 ?_
        refine kw_il dX12_inForce_49 hu (by first | rfl | assumption) (_) (kn_add (kn_add (show (468 : Int32) = nI 468 from rfl) (kn_mul (show (66 : Int32) = nI 66 from rfl) rfl)) (show (1 : Int32) = nI 1 from rfl)) (by omega) rfl ?_
        refine kv_iload_n dX12_inForce_50 rfl ?_
        refine kv_icmp_gt dX12_inForce_51 59 (by decide) (fun h4 => ?_) (fun h4 => ?_)
        · refine kv_iload_n dX12_inForce_59 rfl ?_
          refine kv_istore_n (ls2 := [_, _, _, _, _]) dX12_inForce_60 rfl rfl rfl rfl ?_
          refine kv_iinc (ls2 := [_, _, _, _, _]) dX12_inForce_61 (nI (i + 1)) rfl (kv_inc1 i) rfl rfl rfl rfl ?_
          refine kv_goto dX12_inForce_64 5 (by decide) ?_
          exact KV.loc ih (ksS (by first | rfl | (simp only [kInF, *, eq_self, and_self, and_true, true_and, and_false, false_and, or_true, true_or, or_false, false_or, not_true_eq_false, not_false_eq_true, ne_eq, ↓reduceIte, Nat.succ_ne_self, reduceCtorEq]; done)) (ksS (by first | rfl | (simp only [kInF, *, eq_self, and_self, and_true, true_and, and_false, false_and, or_true, true_or, or_false, false_or, not_true_eq_false, not_false_eq_true, ne_eq, ↓reduceIte, Nat.succ_ne_self, reduceCtorEq]; done)) (ksS (by first | rfl | (simp only [kInF, *, eq_self, and_self, and_true, true_and, and_false, false_and, or_true, true_or, or_false, false_or, not_true_eq_false, not_false_eq_true, ne_eq, ↓reduceIte, Nat.succ_ne_self, reduceCtorEq]; done)) (ksS (by first | rfl | (simp only [kInF, *, eq_self, and_self, and_true, true_and, and_false, false_and, or_true, true_or, or_false, false_or, not_true_eq_false, not_false_eq_true, ne_eq, ↓reduceIte, Nat.succ_ne_self, reduceCtorEq]; done)) (ksS (by first | rfl | (simp only [kInF, *, eq_self, and_self, and_true, true_and, and_false, false_and, or_true, true_or, or_false, false_or, not_true_eq_false, not_false_eq_true, ne_eq, ↓reduceIte, Nat.succ_ne_self, reduceCtorEq]; done)) ksN)))))
        · refine kv_iload dX12_inForce_54 rfl ?_
          refine kv_goto dX12_inForce_56 60 (by decide) ?_
          refine kv_istore_n (ls2 := [_, _, _, _, _]) dX12_inForce_60 rfl rfl rfl rfl ?_
          refine kv_iinc (ls2 := [_, _, _, _, _]) dX12_inForce_61 (nI (i + 1)) rfl (kv_inc1 i) rfl rfl rfl rfl ?_
          refine kv_goto dX12_inForce_64 5 (by decide) ?_
          exact KV.loc ih (ksS (by first | rfl | (simp only [kInF, *, eq_self, and_self, and_true, true_and, and_false, false_and, or_true, true_or, or_false, false_or, not_true_eq_false, not_false_eq_true, ne_eq, ↓reduceIte, Nat.succ_ne_self, reduceCtorEq]; done)) (ksS (by first | rfl | (simp only [kInF, *, eq_self, and_self, and_true, true_and, and_false, false_and, or_true, true_or, or_false, false_or, not_true_eq_false, not_false_eq_true, ne_eq, ↓reduceIte, Nat.succ_ne_self, reduceCtorEq]; done)) (ksS (by first | rfl | (simp only [kInF, *, eq_self, and_self, and_true, true_and, and_false, false_and, or_true, true_or, or_false, false_or, not_true_eq_false, not_false_eq_true, ne_eq, ↓reduceIte, Nat.succ_ne_self, reduceCtorEq]; done)) (ksS (by first | rfl | (simp only [kInF, *, eq_self, and_self, and_true, true_and, and_false, false_and, or_true, true_or, or_false, false_or, not_true_eq_false, not_false_eq_true, ne_eq, ↓reduceIte, Nat.succ_ne_self, reduceCtorEq]; done)) (ksS (by first | rfl | (simp only [kInF, *, eq_self, and_self, and_true, true_and, and_false, false_and, or_true, true_or, or_false, false_or, not_true_eq_false, not_false_eq_true, ne_eq, ↓reduceIte, Nat.succ_ne_self, reduceCtorEq]; done)) ksN)))))

