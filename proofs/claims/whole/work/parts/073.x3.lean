set_option maxRecDepth 20000 in
set_option maxHeartbeats 4000000 in
theorem qX1_freshOf {w : KW} {l : Launch} {u : KMem} (hu : kWd u) {g : Nat → Int32} (hr : kRS 1 g u) (hg : kGI g) (x : Nat) (hx : x < kN g 2) (s : Nat) (hs : s < 2) : KC w l mX1_freshOf 0 0 0 [.ref (1 + (72 + 3 * x)), .int (nI s)] u (kq (some (.int (kFresh g x s))) u) := by
  have hx20 := (hg.cnt (k := 2) rfl).2
  have hc30 := (hg.cnt (k := 0) rfl).2
  have ht10 := (hg.cnt (k := 3) rfl).2
  have he40 := (hg.cnt (k := 4) rfl).2
  have hs16 := hg.cnt (k := 1) rfl
  have kx := ks_crash x (by omega)
  have kx1 := kx.1
  have kx2 := kx.2.1
  have kx3 := kx.2.2.1
  have kx4 := kx.2.2.2.1
  have kx5 := kx.2.2.2.2.1
  have kx6 := kx.2.2.2.2.2
  refine KC.of (ls := [_, _]) rfl rfl (Nat.le_of_ble_eq_true rfl) ?_
  refine kv_iload_n dX1_freshOf_0 rfl ?_
  refine kv_if_ne dX1_freshOf_1 14 (by decide) (fun h1 => ?_) (fun h1 => ?_)
  · have hs1 : s = 1 := by have : ¬ s = 0 := fun q => h1 (by rw [q]; rfl); omega
    subst hs1
    refine kv_aload_n dX1_freshOf_14 rfl ?_
    refine kw_gI dX1_freshOf_15 fX1_31 hu (by first | rfl | assumption) rfl rfl ?_
    rw [hr.fresh hx]
    refine kv_sipush dX1_freshOf_18 255 kz_255 ?_
    refine kv_iand dX1_freshOf_21 ?_
    exact kv_iret dX1_freshOf_22 rfl ⟨by first | rw [hg.fr0 hx] | rw [hg.fr1 hx], rfl⟩
  · have hs0 : s = 0 := (kn_eq (by omega) (by omega)).mp h1
    subst hs0
    refine kv_aload_n dX1_freshOf_4 rfl ?_
    refine kw_gI dX1_freshOf_5 fX1_31 hu (by first | rfl | assumption) rfl rfl ?_
    rw [hr.fresh hx]
    refine kv_bipush dX1_freshOf_8 8 kb_8 ?_
    refine kv_ishr dX1_freshOf_10 ?_
    refine kv_goto dX1_freshOf_11 22 (by decide) ?_
    exact kv_iret dX1_freshOf_22 rfl ⟨by first | rw [hg.fr0 hx] | rw [hg.fr1 hx], rfl⟩

set_option maxRecDepth 20000 in
set_option maxHeartbeats 4000000 in
theorem qX3_fitting {w : KW} {l : Launch} {u : KMem} (hu : kWd u) {g : Nat → Int32} (hr : kRS 1 g u) (hg : kGI g) (x : Nat) (hx : x < kN g 2) : KC w l mX3_fitting 0 0 0 [.ref 385, .ref (1 + (72 + 3 * x))] u (kq (some (.int (kFit g x))) u) := by
  have hx20 := (hg.cnt (k := 2) rfl).2
  have hc30 := (hg.cnt (k := 0) rfl).2
  have ht10 := (hg.cnt (k := 3) rfl).2
  have he40 := (hg.cnt (k := 4) rfl).2
  have hs16 := hg.cnt (k := 1) rfl
  have kx := ks_crash x (by omega)
  have kx1 := kx.1
  have kx2 := kx.2.1
  have kx3 := kx.2.2.1
  have kx4 := kx.2.2.2.1
  have kx5 := kx.2.2.2.2.1
  have kx6 := kx.2.2.2.2.2
  refine KC.of (ls := [_, _, _, _, _, _]) rfl rfl (Nat.le_of_ble_eq_true rfl) ?_
  refine kv_iconst dX3_fitting_0 0 ki_0 ?_
  refine kv_istore_n (ls2 := [_, _, _, _, _, _]) dX3_fitting_1 rfl rfl rfl rfl ?_
  refine kv_iconst dX3_fitting_2 0 ki_0 ?_
  refine kv_istore_n (ls2 := [_, _, _, _, _, _]) dX3_fitting_3 rfl rfl rfl rfl ?_
  refine KV.loc (ls2 := [some (.ref 385), some (.ref (1 + (72 + 3 * x))), some (.int (kFitA g (kFr2 g x) 0)), some (.int (nI 0)), none, none]) ?_ (ksS (by first | rfl | (simp only [kFitA, Int32.or_zero, *, eq_self, and_self, and_true, true_and, and_false, false_and, or_true, true_or, or_false, false_or, not_true_eq_false, not_false_eq_true, ne_eq, ↓reduceIte, Nat.succ_ne_self, reduceCtorEq]; done)) (ksS (by first | rfl | (simp only [kFitA, Int32.or_zero, *, eq_self, and_self, and_true, true_and, and_false, false_and, or_true, true_or, or_false, false_or, not_true_eq_false, not_false_eq_true, ne_eq, ↓reduceIte, Nat.succ_ne_self, reduceCtorEq]; done)) (ksS (by first | rfl | (simp only [kFitA, Int32.or_zero, *, eq_self, and_self, and_true, true_and, and_false, false_and, or_true, true_or, or_false, false_or, not_true_eq_false, not_false_eq_true, ne_eq, ↓reduceIte, Nat.succ_ne_self, reduceCtorEq]; done)) (ksS (by first | rfl | (simp only [kFitA, Int32.or_zero, *, eq_self, and_self, and_true, true_and, and_false, false_and, or_true, true_or, or_false, false_or, not_true_eq_false, not_false_eq_true, ne_eq, ↓reduceIte, Nat.succ_ne_self, reduceCtorEq]; done)) (ks0 (ks0 ksN))))))
  refine kn_loop (P := fun i => KV w l mX3_fitting 0 0 0 4 [some (.ref 385), some (.ref (1 + (72 + 3 * x))), some (.int (kFitA g (kFr2 g x) i)), some (.int (nI i)), none, none] [] u (kq (some (.int (kFit g x))) u)) (kN g 1) ?_ (fun i hi ih => ?_)
  · refine kv_iload_n dX3_fitting_4 rfl ?_
    refine kv_aload_n dX3_fitting_5 rfl ?_
    refine kw_gR dX3_fitting_6 fX3_18 hu (by first | rfl | assumption) rfl rfl (by first | rfl | assumption) ?_
    refine kw_gI dX3_fitting_9 fX3_22 hu (by first | rfl | assumption) rfl rfl ?_
    rw [hr.n1, hs16.1]
    refine kv_icmp_ge dX3_fitting_12 89 (by decide) (fun h1 => ?_) (fun h1 => ?_)
    · refine kv_iload_n dX3_fitting_89 rfl ?_
      exact kv_iret dX3_fitting_90 rfl ⟨by unfold kFit; rw [hg.fr2 hx], rfl⟩
    · exact (kn_nge h1).elim
  · refine kv_iload_n dX3_fitting_4 rfl ?_
    refine kv_aload_n dX3_fitting_5 rfl ?_
    refine kw_gR dX3_fitting_6 fX3_18 hu (by first | rfl | assumption) rfl rfl (by first | rfl | assumption) ?_
    refine kw_gI dX3_fitting_9 fX3_22 hu (by first | rfl | assumption) rfl rfl ?_
    rw [hr.n1, hs16.1]
    refine kv_icmp_ge dX3_fitting_12 89 (by decide) (fun h2 => ?_) (fun h2 => ?_)
    · exact absurd h2 (kn_ge hi (by omega))
    · refine kv_aload_n dX3_fitting_15 rfl ?_
      refine kw_gR dX3_fitting_16 fX3_18 hu (by first | rfl | assumption) rfl rfl (by first | rfl | assumption) ?_
      refine kw_gR dX3_fitting_19 fX3_28 hu (by first | rfl | assumption) rfl rfl (by first | rfl | assumption) ?_
      refine kv_iload_n dX3_fitting_22 rfl ?_
      refine kw_il dX3_fitting_23 hu (by first | rfl | assumption) (i) rfl (by omega) rfl ?_
      rw [hr.need hi]
      refine kv_aload_n dX3_fitting_24 rfl ?_
      refine kw_gI dX3_fitting_25 fX3_31 hu (by first | rfl | assumption) rfl rfl ?_
      rw [hr.fresh hx]
      refine kv_iconst dX3_fitting_28 (-1) ki_m1 ?_
      refine kv_ixor dX3_fitting_29 ?_
      refine kv_iand dX3_fitting_30 ?_
      refine kv_if_eq dX3_fitting_31 38 (by decide) (fun h3 => ?_) (fun h3 => ?_)
      · refine kv_iconst dX3_fitting_38 0 ki_0 ?_
        refine kv_istore (ls2 := [_, _, _, _, _, _]) dX3_fitting_39 rfl rfl rfl rfl ?_
        refine kv_aload_n dX3_fitting_41 rfl ?_
        refine kw_gI dX3_fitting_42 fX3_31 hu (by first | rfl | assumption) rfl rfl ?_
        rw [hr.fresh hx]
        refine kv_aload_n dX3_fitting_45 rfl ?_
        refine kw_gR dX3_fitting_46 fX3_18 hu (by first | rfl | assumption) rfl rfl (by first | rfl | assumption) ?_
        refine kw_gR dX3_fitting_49 fX3_36 hu (by first | rfl | assumption) rfl rfl (by first | rfl | assumption) ?_
        refine kv_iload_n dX3_fitting_52 rfl ?_
        refine kw_il dX3_fitting_53 hu (by first | rfl | assumption) (i) rfl (by omega) rfl ?_
        rw [hr.allow hi]
        refine kv_iconst dX3_fitting_54 (-1) ki_m1 ?_
        refine kv_ixor dX3_fitting_55 ?_
        refine kv_iand dX3_fitting_56 ?_
        refine kv_if_eq dX3_fitting_57 64 (by decide) (fun h4 => ?_) (fun h4 => ?_)
        · refine kv_iconst dX3_fitting_64 0 ki_0 ?_
          refine kv_istore (ls2 := [_, _, _, _, _, _]) dX3_fitting_65 rfl rfl rfl rfl ?_
          refine kv_iload dX3_fitting_67 rfl ?_
          refine kv_if_ne dX3_fitting_69 83 (by decide) (fun h5 => ?_) (fun h5 => ?_)
          · exact absurd h5 (by decide)
          · refine kv_iload dX3_fitting_72 rfl ?_
            refine kv_if_ne dX3_fitting_74 83 (by decide) (fun h6 => ?_) (fun h6 => ?_)
            · exact absurd h6 (by decide)
            · refine kv_iload_n dX3_fitting_77 rfl ?_
              refine kv_iconst dX3_fitting_78 1 ki_1 ?_
              refine kv_iload_n dX3_fitting_79 rfl ?_
              refine kv_ishl dX3_fitting_80 ?_
              refine kv_ior dX3_fitting_81 ?_
              refine kv_istore_n (ls2 := [_, _, _, _, _, _]) dX3_fitting_82 rfl rfl rfl rfl ?_
              refine kv_iinc (ls2 := [_, _, _, _, _, _]) dX3_fitting_83 (nI (i + 1)) rfl (kv_inc1 i) rfl rfl rfl rfl ?_
              refine kv_goto dX3_fitting_86 4 (by decide) ?_
              exact KV.loc ih (ksS (by first | rfl | (simp only [kFitA, Int32.or_zero, *, eq_self, and_self, and_true, true_and, and_false, false_and, or_true, true_or, or_false, false_or, not_true_eq_false, not_false_eq_true, ne_eq, ↓reduceIte, Nat.succ_ne_self, reduceCtorEq]; done)) (ksS (by first | rfl | (simp only [kFitA, Int32.or_zero, *, eq_self, and_self, and_true, true_and, and_false, false_and, or_true, true_or, or_false, false_or, not_true_eq_false, not_false_eq_true, ne_eq, ↓reduceIte, Nat.succ_ne_self, reduceCtorEq]; done)) (ksS (by first | rfl | (simp only [kFitA, Int32.or_zero, *, eq_self, and_self, and_true, true_and, and_false, false_and, or_true, true_or, or_false, false_or, not_true_eq_false, not_false_eq_true, ne_eq, ↓reduceIte, Nat.succ_ne_self, reduceCtorEq]; done)) (ksS (by first | rfl | (simp only [kFitA, Int32.or_zero, *, eq_self, and_self, and_true, true_and, and_false, false_and, or_true, true_or, or_false, false_or, not_true_eq_false, not_false_eq_true, ne_eq, ↓reduceIte, Nat.succ_ne_self, reduceCtorEq]; done)) (ks0 (ks0 ksN))))))
        · refine kv_iconst dX3_fitting_60 1 ki_1 ?_
          refine kv_goto dX3_fitting_61 65 (by decide) ?_
          refine kv_istore (ls2 := [_, _, _, _, _, _]) dX3_fitting_65 rfl rfl rfl rfl ?_
          refine kv_iload dX3_fitting_67 rfl ?_
          refine kv_if_ne dX3_fitting_69 83 (by decide) (fun h7 => ?_) (fun h7 => ?_)
          · exact absurd h7 (by decide)
          · refine kv_iload dX3_fitting_72 rfl ?_
            refine kv_if_ne dX3_fitting_74 83 (by decide) (fun h8 => ?_) (fun h8 => ?_)
            · refine kv_iinc (ls2 := [_, _, _, _, _, _]) dX3_fitting_83 (nI (i + 1)) rfl (kv_inc1 i) rfl rfl rfl rfl ?_
              refine kv_goto dX3_fitting_86 4 (by decide) ?_
              exact KV.loc ih (ksS (by first | rfl | (simp only [kFitA, Int32.or_zero, *, eq_self, and_self, and_true, true_and, and_false, false_and, or_true, true_or, or_false, false_or, not_true_eq_false, not_false_eq_true, ne_eq, ↓reduceIte, Nat.succ_ne_self, reduceCtorEq]; done)) (ksS (by first | rfl | (simp only [kFitA, Int32.or_zero, *, eq_self, and_self, and_true, true_and, and_false, false_and, or_true, true_or, or_false, false_or, not_true_eq_false, not_false_eq_true, ne_eq, ↓reduceIte, Nat.succ_ne_self, reduceCtorEq]; done)) (ksS (by first | rfl | (simp only [kFitA, Int32.or_zero, *, eq_self, and_self, and_true, true_and, and_false, false_and, or_true, true_or, or_false, false_or, not_true_eq_false, not_false_eq_true, ne_eq, ↓reduceIte, Nat.succ_ne_self, reduceCtorEq]; done)) (ksS (by first | rfl | (simp only [kFitA, Int32.or_zero, *, eq_self, and_self, and_true, true_and, and_false, false_and, or_true, true_or, or_false, false_or, not_true_eq_false, not_false_eq_true, ne_eq, ↓reduceIte, Nat.succ_ne_self, reduceCtorEq]; done)) (ks0 (ks0 ksN))))))
            · exact absurd h8 (by decide)
      · refine kv_iconst dX3_fitting_34 1 ki_1 ?_
        refine kv_goto dX3_fitting_35 39 (by decide) ?_
        refine kv_istore (ls2 := [_, _, _, _, _, _]) dX3_fitting_39 rfl rfl rfl rfl ?_
        refine kv_aload_n dX3_fitting_41 rfl ?_
        refine kw_gI dX3_fitting_42 fX3_31 hu (by first | rfl | assumption) rfl rfl ?_
        rw [hr.fresh hx]
        refine kv_aload_n dX3_fitting_45 rfl ?_
        refine kw_gR dX3_fitting_46 fX3_18 hu (by first | rfl | assumption) rfl rfl (by first | rfl | assumption) ?_
        refine kw_gR dX3_fitting_49 fX3_36 hu (by first | rfl | assumption) rfl rfl (by first | rfl | assumption) ?_
        refine kv_iload_n dX3_fitting_52 rfl ?_
        refine kw_il dX3_fitting_53 hu (by first | rfl | assumption) (i) rfl (by omega) rfl ?_
        rw [hr.allow hi]
        refine kv_iconst dX3_fitting_54 (-1) ki_m1 ?_
        refine kv_ixor dX3_fitting_55 ?_
        refine kv_iand dX3_fitting_56 ?_
        refine kv_if_eq dX3_fitting_57 64 (by decide) (fun h9 => ?_) (fun h9 => ?_)
        · refine kv_iconst dX3_fitting_64 0 ki_0 ?_
          refine kv_istore (ls2 := [_, _, _, _, _, _]) dX3_fitting_65 rfl rfl rfl rfl ?_
          refine kv_iload dX3_fitting_67 rfl ?_
          refine kv_if_ne dX3_fitting_69 83 (by decide) (fun h10 => ?_) (fun h10 => ?_)
          · refine kv_iinc (ls2 := [_, _, _, _, _, _]) dX3_fitting_83 (nI (i + 1)) rfl (kv_inc1 i) rfl rfl rfl rfl ?_
            refine kv_goto dX3_fitting_86 4 (by decide) ?_
            exact KV.loc ih (ksS (by first | rfl | (simp only [kFitA, Int32.or_zero, *, eq_self, and_self, and_true, true_and, and_false, false_and, or_true, true_or, or_false, false_or, not_true_eq_false, not_false_eq_true, ne_eq, ↓reduceIte, Nat.succ_ne_self, reduceCtorEq]; done)) (ksS (by first | rfl | (simp only [kFitA, Int32.or_zero, *, eq_self, and_self, and_true, true_and, and_false, false_and, or_true, true_or, or_false, false_or, not_true_eq_false, not_false_eq_true, ne_eq, ↓reduceIte, Nat.succ_ne_self, reduceCtorEq]; done)) (ksS (by first | rfl | (simp only [kFitA, Int32.or_zero, *, eq_self, and_self, and_true, true_and, and_false, false_and, or_true, true_or, or_false, false_or, not_true_eq_false, not_false_eq_true, ne_eq, ↓reduceIte, Nat.succ_ne_self, reduceCtorEq]; done)) (ksS (by first | rfl | (simp only [kFitA, Int32.or_zero, *, eq_self, and_self, and_true, true_and, and_false, false_and, or_true, true_or, or_false, false_or, not_true_eq_false, not_false_eq_true, ne_eq, ↓reduceIte, Nat.succ_ne_self, reduceCtorEq]; done)) (ks0 (ks0 ksN))))))
          · exact absurd h10 (by decide)
        · refine kv_iconst dX3_fitting_60 1 ki_1 ?_
          refine kv_goto dX3_fitting_61 65 (by decide) ?_
          refine kv_istore (ls2 := [_, _, _, _, _, _]) dX3_fitting_65 rfl rfl rfl rfl ?_
          refine kv_iload dX3_fitting_67 rfl ?_
          refine kv_if_ne dX3_fitting_69 83 (by decide) (fun h11 => ?_) (fun h11 => ?_)
          · refine kv_iinc (ls2 := [_, _, _, _, _, _]) dX3_fitting_83 (nI (i + 1)) rfl (kv_inc1 i) rfl rfl rfl rfl ?_
            refine kv_goto dX3_fitting_86 4 (by decide) ?_
            exact KV.loc ih (ksS (by first | rfl | (simp only [kFitA, Int32.or_zero, *, eq_self, and_self, and_true, true_and, and_false, false_and, or_true, true_or, or_false, false_or, not_true_eq_false, not_false_eq_true, ne_eq, ↓reduceIte, Nat.succ_ne_self, reduceCtorEq]; done)) (ksS (by first | rfl | (simp only [kFitA, Int32.or_zero, *, eq_self, and_self, and_true, true_and, and_false, false_and, or_true, true_or, or_false, false_or, not_true_eq_false, not_false_eq_true, ne_eq, ↓reduceIte, Nat.succ_ne_self, reduceCtorEq]; done)) (ksS (by first | rfl | (simp only [kFitA, Int32.or_zero, *, eq_self, and_self, and_true, true_and, and_false, false_and, or_true, true_or, or_false, false_or, not_true_eq_false, not_false_eq_true, ne_eq, ↓reduceIte, Nat.succ_ne_self, reduceCtorEq]; done)) (ksS (by first | rfl | (simp only [kFitA, Int32.or_zero, *, eq_self, and_self, and_true, true_and, and_false, false_and, or_true, true_or, or_false, false_or, not_true_eq_false, not_false_eq_true, ne_eq, ↓reduceIte, Nat.succ_ne_self, reduceCtorEq]; done)) (ks0 (ks0 ksN))))))
          · exact absurd h11 (by decide)

set_option maxRecDepth 20000 in
set_option maxHeartbeats 4000000 in
theorem qX3_left {w : KW} {l : Launch} {u : KMem} (hu : kWd u) {g : Nat → Int32} (hr : kRS 1 g u) (hg : kGI g) (x : Nat) (hx : x < kN g 2) : KC w l mX3_left 1 0 0 [.ref 385, .ref (1 + (72 + 3 * x))] u (kq (some (.int (kLeft g x))) u) := by
  have hx20 := (hg.cnt (k := 2) rfl).2
  have hc30 := (hg.cnt (k := 0) rfl).2
  have ht10 := (hg.cnt (k := 3) rfl).2
  have he40 := (hg.cnt (k := 4) rfl).2
  have hs16 := hg.cnt (k := 1) rfl
  have kx := ks_crash x (by omega)
  have kx1 := kx.1
  have kx2 := kx.2.1
  have kx3 := kx.2.2.1
  have kx4 := kx.2.2.2.1
  have kx5 := kx.2.2.2.2.1
  have kx6 := kx.2.2.2.2.2
  refine KC.of (ls := [_, _, _, _, _]) rfl rfl (Nat.le_of_ble_eq_true rfl) ?_
  refine kv_aload_n dX3_left_0 rfl ?_
  refine kv_aload_n dX3_left_1 rfl ?_
  refine kw_Vi [_] mX3_fitting dX3_left_2 lX3_39 wX3_fitting kC3 hu rfl (by first | rfl | assumption) rfl rfl rfl (qX3_fitting hu hr hg x hx) (by decide) ?_
  refine kv_istore_n (ls2 := [_, _, _, _, _]) dX3_left_5 rfl rfl rfl rfl ?_
  refine kv_aload_n dX3_left_6 rfl ?_
  refine kw_gR dX3_left_7 fX3_43 hu (by first | rfl | assumption) rfl rfl (by first | rfl | assumption) ?_
  refine kv_iconst dX3_left_10 0 ki_0 ?_
  refine kw_il dX3_left_11 hu (by first | rfl | assumption) (_) (show (0 : Int32) = nI 0 from rfl) (by omega) rfl ?_
  rw [hr.tell hx 0 (by decide)]
  refine kv_if_ne dX3_left_12 19 (by decide) (fun h1 => ?_) (fun h1 => ?_)
  · have pa := kTold_1 h1
    refine kv_iload_n dX3_left_19 rfl ?_
    refine kv_aload_n dX3_left_20 rfl ?_
    refine kw_gR dX3_left_21 fX3_43 hu (by first | rfl | assumption) rfl rfl (by first | rfl | assumption) ?_
    refine kv_iconst dX3_left_24 0 ki_0 ?_
    refine kw_il dX3_left_25 hu (by first | rfl | assumption) (_) (show (0 : Int32) = nI 0 from rfl) (by omega) rfl ?_
    rw [hr.tell hx 0 (by decide)]
    refine kv_iand dX3_left_26 ?_
    refine kv_istore_n (ls2 := [_, _, _, _, _]) dX3_left_27 rfl rfl rfl rfl ?_
    refine kv_aload_n dX3_left_28 rfl ?_
    refine kw_gR dX3_left_29 fX3_43 hu (by first | rfl | assumption) rfl rfl (by first | rfl | assumption) ?_
    refine kv_iconst dX3_left_32 1 ki_1 ?_
    refine kw_il dX3_left_33 hu (by first | rfl | assumption) (_) (show (1 : Int32) = nI 1 from rfl) (by omega) rfl ?_
    rw [hr.tell hx 1 (by decide)]
    refine kv_if_ne dX3_left_34 41 (by decide) (fun h2 => ?_) (fun h2 => ?_)
    · have pb := kTold_1 h2
      refine kv_iload_n dX3_left_41 rfl ?_
      refine kv_aload_n dX3_left_42 rfl ?_
      refine kw_gR dX3_left_43 fX3_43 hu (by first | rfl | assumption) rfl rfl (by first | rfl | assumption) ?_
      refine kv_iconst dX3_left_46 1 ki_1 ?_
      refine kw_il dX3_left_47 hu (by first | rfl | assumption) (_) (show (1 : Int32) = nI 1 from rfl) (by omega) rfl ?_
      rw [hr.tell hx 1 (by decide)]
      refine kv_iand dX3_left_48 ?_
      refine kv_istore (ls2 := [_, _, _, _, _]) dX3_left_49 rfl rfl rfl rfl ?_
      refine kv_iload_n dX3_left_51 rfl ?_
      refine kv_iload dX3_left_52 rfl ?_
      refine kv_iand dX3_left_54 ?_
      refine kv_if_eq dX3_left_55 63 (by decide) (fun h3 => ?_) (fun h3 => ?_)
      · have hA := h3
        refine kv_iload_n dX3_left_63 rfl ?_
        refine kv_iload dX3_left_64 rfl ?_
        refine kv_ior dX3_left_66 ?_
        refine kv_if_eq dX3_left_67 77 (by decide) (fun h4 => ?_) (fun h4 => ?_)
        · have hB := h4
          refine kv_iload_n dX3_left_77 rfl ?_
          exact kv_iret dX3_left_78 rfl ⟨congrArg (fun z => some (Value.int z)) (by first | exact kLeft_2 pa pb hA hB | exact kLeft_3 pa pb hA hB), rfl⟩
        · have hB := h4
          refine kv_iload_n dX3_left_70 rfl ?_
          refine kv_iload dX3_left_71 rfl ?_
          refine kv_ior dX3_left_73 ?_
          refine kv_goto dX3_left_74 78 (by decide) ?_
          exact kv_iret dX3_left_78 rfl ⟨congrArg (fun z => some (Value.int z)) (by first | exact kLeft_2 pa pb hA hB | exact kLeft_3 pa pb hA hB), rfl⟩
      · have hA := h3
        refine kv_iload_n dX3_left_58 rfl ?_
        refine kv_iload dX3_left_59 rfl ?_
        refine kv_iand dX3_left_61 ?_
        exact kv_iret dX3_left_62 rfl ⟨congrArg (fun z => some (Value.int z)) (kLeft_1 pa pb hA), rfl⟩
    · have pb := kTold_0 hg h2
      refine kv_iload_n dX3_left_37 rfl ?_
      refine kv_goto dX3_left_38 49 (by decide) ?_
      refine kv_istore (ls2 := [_, _, _, _, _]) dX3_left_49 rfl rfl rfl rfl ?_
      refine kv_iload_n dX3_left_51 rfl ?_
      refine kv_iload dX3_left_52 rfl ?_
      refine kv_iand dX3_left_54 ?_
      refine kv_if_eq dX3_left_55 63 (by decide) (fun h5 => ?_) (fun h5 => ?_)
      · have hA := h5
        refine kv_iload_n dX3_left_63 rfl ?_
        refine kv_iload dX3_left_64 rfl ?_
        refine kv_ior dX3_left_66 ?_
        refine kv_if_eq dX3_left_67 77 (by decide) (fun h6 => ?_) (fun h6 => ?_)
        · have hB := h6
          refine kv_iload_n dX3_left_77 rfl ?_
          exact kv_iret dX3_left_78 rfl ⟨congrArg (fun z => some (Value.int z)) (by first | exact kLeft_2 pa pb hA hB | exact kLeft_3 pa pb hA hB), rfl⟩
        · have hB := h6
          refine kv_iload_n dX3_left_70 rfl ?_
          refine kv_iload dX3_left_71 rfl ?_
          refine kv_ior dX3_left_73 ?_
          refine kv_goto dX3_left_74 78 (by decide) ?_
          exact kv_iret dX3_left_78 rfl ⟨congrArg (fun z => some (Value.int z)) (by first | exact kLeft_2 pa pb hA hB | exact kLeft_3 pa pb hA hB), rfl⟩
      · have hA := h5
        refine kv_iload_n dX3_left_58 rfl ?_
        refine kv_iload dX3_left_59 rfl ?_
        refine kv_iand dX3_left_61 ?_
        exact kv_iret dX3_left_62 rfl ⟨congrArg (fun z => some (Value.int z)) (kLeft_1 pa pb hA), rfl⟩
  · have pa := kTold_0 hg h1
    refine kv_iload_n dX3_left_15 rfl ?_
    refine kv_goto dX3_left_16 27 (by decide) ?_
    refine kv_istore_n (ls2 := [_, _, _, _, _]) dX3_left_27 rfl rfl rfl rfl ?_
    refine kv_aload_n dX3_left_28 rfl ?_
    refine kw_gR dX3_left_29 fX3_43 hu (by first | rfl | assumption) rfl rfl (by first | rfl | assumption) ?_
    refine kv_iconst dX3_left_32 1 ki_1 ?_
    refine kw_il dX3_left_33 hu (by first | rfl | assumption) (_) (show (1 : Int32) = nI 1 from rfl) (by omega) rfl ?_
    rw [hr.tell hx 1 (by decide)]
    refine kv_if_ne dX3_left_34 41 (by decide) (fun h7 => ?_) (fun h7 => ?_)
    · have pb := kTold_1 h7
      refine kv_iload_n dX3_left_41 rfl ?_
      refine kv_aload_n dX3_left_42 rfl ?_
      refine kw_gR dX3_left_43 fX3_43 hu (by first | rfl | assumption) rfl rfl (by first | rfl | assumption) ?_
      refine kv_iconst dX3_left_46 1 ki_1 ?_
      refine kw_il dX3_left_47 hu (by first | rfl | assumption) (_) (show (1 : Int32) = nI 1 from rfl) (by omega) rfl ?_
      rw [hr.tell hx 1 (by decide)]
      refine kv_iand dX3_left_48 ?_
      refine kv_istore (ls2 := [_, _, _, _, _]) dX3_left_49 rfl rfl rfl rfl ?_
      refine kv_iload_n dX3_left_51 rfl ?_
      refine kv_iload dX3_left_52 rfl ?_
      refine kv_iand dX3_left_54 ?_
      refine kv_if_eq dX3_left_55 63 (by decide) (fun h8 => ?_) (fun h8 => ?_)
      · have hA := h8
        refine kv_iload_n dX3_left_63 rfl ?_
        refine kv_iload dX3_left_64 rfl ?_
        refine kv_ior dX3_left_66 ?_
        refine kv_if_eq dX3_left_67 77 (by decide) (fun h9 => ?_) (fun h9 => ?_)
        · have hB := h9
          refine kv_iload_n dX3_left_77 rfl ?_
          exact kv_iret dX3_left_78 rfl ⟨congrArg (fun z => some (Value.int z)) (by first | exact kLeft_2 pa pb hA hB | exact kLeft_3 pa pb hA hB), rfl⟩
        · have hB := h9
          refine kv_iload_n dX3_left_70 rfl ?_
          refine kv_iload dX3_left_71 rfl ?_
          refine kv_ior dX3_left_73 ?_
          refine kv_goto dX3_left_74 78 (by decide) ?_
          exact kv_iret dX3_left_78 rfl ⟨congrArg (fun z => some (Value.int z)) (by first | exact kLeft_2 pa pb hA hB | exact kLeft_3 pa pb hA hB), rfl⟩
      · have hA := h8
        refine kv_iload_n dX3_left_58 rfl ?_
        refine kv_iload dX3_left_59 rfl ?_
        refine kv_iand dX3_left_61 ?_
        exact kv_iret dX3_left_62 rfl ⟨congrArg (fun z => some (Value.int z)) (kLeft_1 pa pb hA), rfl⟩
    · have pb := kTold_0 hg h7
      refine kv_iload_n dX3_left_37 rfl ?_
      refine kv_goto dX3_left_38 49 (by decide) ?_
      refine kv_istore (ls2 := [_, _, _, _, _]) dX3_left_49 rfl rfl rfl rfl ?_
      refine kv_iload_n dX3_left_51 rfl ?_
      refine kv_iload dX3_left_52 rfl ?_
      refine kv_iand dX3_left_54 ?_
      refine kv_if_eq dX3_left_55 63 (by decide) (fun h10 => ?_) (fun h10 => ?_)
      · have hA := h10
        refine kv_iload_n dX3_left_63 rfl ?_
        refine kv_iload dX3_left_64 rfl ?_
        refine kv_ior dX3_left_66 ?_
        refine kv_if_eq dX3_left_67 77 (by decide) (fun h11 => ?_) (fun h11 => ?_)
        · have hB := h11
          refine kv_iload_n dX3_left_77 rfl ?_
          exact kv_iret dX3_left_78 rfl ⟨congrArg (fun z => some (Value.int z)) (by first | exact kLeft_2 pa pb hA hB | exact kLeft_3 pa pb hA hB), rfl⟩
        · have hB := h11
          refine kv_iload_n dX3_left_70 rfl ?_
          refine kv_iload dX3_left_71 rfl ?_
          refine kv_ior dX3_left_73 ?_
          refine kv_goto dX3_left_74 78 (by decide) ?_
          exact kv_iret dX3_left_78 rfl ⟨congrArg (fun z => some (Value.int z)) (by first | exact kLeft_2 pa pb hA hB | exact kLeft_3 pa pb hA hB), rfl⟩
      · have hA := h10
        refine kv_iload_n dX3_left_58 rfl ?_
        refine kv_iload dX3_left_59 rfl ?_
        refine kv_iand dX3_left_61 ?_
        exact kv_iret dX3_left_62 rfl ⟨congrArg (fun z => some (Value.int z)) (kLeft_1 pa pb hA), rfl⟩

set_option maxRecDepth 20000 in
set_option maxHeartbeats 4000000 in
theorem qX3_least {w : KW} {l : Launch} {u : KMem} (hu : kWd u) {g : Nat → Int32} (hr : kRS 1 g u) (hg : kGI g) (left : Int32) (hl : ∃ m, m < 2 ^ kN g 1 ∧ left = nI m) : KC w l mX3_least 1 0 0 [.ref 385, .int left] u (kq (some (.int (kEnd g left 0))) u) := by
  have hx20 := (hg.cnt (k := 2) rfl).2
  have hc30 := (hg.cnt (k := 0) rfl).2
  have ht10 := (hg.cnt (k := 3) rfl).2
  have he40 := (hg.cnt (k := 4) rfl).2
  have hs16 := hg.cnt (k := 1) rfl
  refine KC.of (ls := [_, _, _, _]) rfl rfl (Nat.le_of_ble_eq_true rfl) ?_
  refine kv_bipush dX3_least_0 100 kb_100 ?_
  refine kv_istore_n (ls2 := [_, _, _, _]) dX3_least_2 rfl rfl rfl rfl ?_
  refine kv_iconst dX3_least_3 0 ki_0 ?_
  refine kv_istore_n (ls2 := [_, _, _, _]) dX3_least_4 rfl rfl rfl rfl ?_
  refine KV.loc (ls2 := [some (.ref 385), some (.int left), some (.int (kLsA g left 0)), some (.int (nI 0))]) ?_ (ksS (by first | rfl | (simp only [kLsA, *, eq_self, and_self, and_true, true_and, and_false, false_and, or_true, true_or, or_false, false_or, not_true_eq_false, not_false_eq_true, ne_eq, ↓reduceIte, Nat.succ_ne_self, reduceCtorEq]; done)) (ksS (by first | rfl | (simp only [kLsA, *, eq_self, and_self, and_true, true_and, and_false, false_and, or_true, true_or, or_false, false_or, not_true_eq_false, not_false_eq_true, ne_eq, ↓reduceIte, Nat.succ_ne_self, reduceCtorEq]; done)) (ksS (by first | rfl | (simp only [kLsA, *, eq_self, and_self, and_true, true_and, and_false, false_and, or_true, true_or, or_false, false_or, not_true_eq_false, not_false_eq_true, ne_eq, ↓reduceIte, Nat.succ_ne_self, reduceCtorEq]; done)) (ksS (by first | rfl | (simp only [kLsA, *, eq_self, and_self, and_true, true_and, and_false, false_and, or_true, true_or, or_false, false_or, not_true_eq_false, not_false_eq_true, ne_eq, ↓reduceIte, Nat.succ_ne_self, reduceCtorEq]; done)) ksN))))
  refine kn_loop (P := fun i => KV w l mX3_least 1 0 0 5 [some (.ref 385), some (.int left), some (.int (kLsA g left i)), some (.int (nI i))] [] u (kq (some (.int (kEnd g left 0))) u)) (kN g 1) ?_ (fun i hi ih => ?_)
  · refine kv_iload_n dX3_least_5 rfl ?_
    refine kv_aload_n dX3_least_6 rfl ?_
    refine kw_gR dX3_least_7 fX3_18 hu (by first | rfl | assumption) rfl rfl (by first | rfl | assumption) ?_
    refine kw_gI dX3_least_10 fX3_22 hu (by first | rfl | assumption) rfl rfl ?_
    rw [hr.n1, hs16.1]
    refine kv_icmp_ge dX3_least_13 44 (by decide) (fun h1 => ?_) (fun h1 => ?_)
    · refine kv_iload_n dX3_least_44 rfl ?_
      refine kv_if_ne dX3_least_45 52 (by decide) (fun h2 => ?_) (fun h2 => ?_)
      · have hz := h2
        refine kv_iload_n dX3_least_52 rfl ?_
        exact kv_iret dX3_least_53 rfl ⟨by first | rw [kLs_end hg hl hz] | (unfold kEnd; rw [if_pos hz]; rfl), rfl⟩
      · have hz := h2
        refine kv_iconst dX3_least_48 0 ki_0 ?_
        refine kv_goto dX3_least_49 53 (by decide) ?_
        exact kv_iret dX3_least_53 rfl ⟨by first | rw [kLs_end hg hl hz] | (unfold kEnd; rw [if_pos hz]; rfl), rfl⟩
    · exact (kn_nge h1).elim
  · refine kv_iload_n dX3_least_5 rfl ?_
    refine kv_aload_n dX3_least_6 rfl ?_
    refine kw_gR dX3_least_7 fX3_18 hu (by first | rfl | assumption) rfl rfl (by first | rfl | assumption) ?_
    refine kw_gI dX3_least_10 fX3_22 hu (by first | rfl | assumption) rfl rfl ?_
    rw [hr.n1, hs16.1]
    refine kv_icmp_ge dX3_least_13 44 (by decide) (fun h3 => ?_) (fun h3 => ?_)
    · exact absurd h3 (kn_ge hi (by omega))
    · refine kv_iload_n dX3_least_16 rfl ?_
      refine kv_iload_n dX3_least_17 rfl ?_
      refine kv_ishr dX3_least_18 ?_
      refine kv_iconst dX3_least_19 1 ki_1 ?_
      refine kv_iand dX3_least_20 ?_
      refine kv_if_eq dX3_least_21 38 (by decide) (fun h4 => ?_) (fun h4 => ?_)
      · refine kv_iinc (ls2 := [_, _, _, _]) dX3_least_38 (nI (i + 1)) rfl (kv_inc1 i) rfl rfl rfl rfl ?_
        refine kv_goto dX3_least_41 5 (by decide) ?_
        exact KV.loc ih (ksS (by first | rfl | (simp only [kLsA, *, eq_self, and_self, and_true, true_and, and_false, false_and, or_true, true_or, or_false, false_or, not_true_eq_false, not_false_eq_true, ne_eq, ↓reduceIte, Nat.succ_ne_self, reduceCtorEq]; done)) (ksS (by first | rfl | (simp only [kLsA, *, eq_self, and_self, and_true, true_and, and_false, false_and, or_true, true_or, or_false, false_or, not_true_eq_false, not_false_eq_true, ne_eq, ↓reduceIte, Nat.succ_ne_self, reduceCtorEq]; done)) (ksS (by first | rfl | (simp only [kLsA, *, eq_self, and_self, and_true, true_and, and_false, false_and, or_true, true_or, or_false, false_or, not_true_eq_false, not_false_eq_true, ne_eq, ↓reduceIte, Nat.succ_ne_self, reduceCtorEq]; done)) (ksS (by first | rfl | (simp only [kLsA, *, eq_self, and_self, and_true, true_and, and_false, false_and, or_true, true_or, or_false, false_or, not_true_eq_false, not_false_eq_true, ne_eq, ↓reduceIte, Nat.succ_ne_self, reduceCtorEq]; done)) ksN))))
      · refine kv_iload_n dX3_least_24 rfl ?_
        refine kv_aload_n dX3_least_25 rfl ?_
        refine kw_gR dX3_least_26 fX3_18 hu (by first | rfl | assumption) rfl rfl (by first | rfl | assumption) ?_
        refine kw_gR dX3_least_29 fX3_46 hu (by first | rfl | assumption) rfl rfl (by first | rfl | assumption) ?_
        refine kv_iload_n dX3_least_32 rfl ?_
        refine kw_il dX3_least_33 hu (by first | rfl | assumption) (i) rfl (by omega) rfl ?_
        rw [hr.fault hi]
        refine kw_mmin dX3_least_34 lX3_49 rfl (by omega) ?_
        refine kv_istore_n (ls2 := [_, _, _, _]) dX3_least_37 rfl rfl rfl rfl ?_
        refine kv_iinc (ls2 := [_, _, _, _]) dX3_least_38 (nI (i + 1)) rfl (kv_inc1 i) rfl rfl rfl rfl ?_
        refine kv_goto dX3_least_41 5 (by decide) ?_
        exact KV.loc ih (ksS (by first | rfl | (simp only [kLsA, *, eq_self, and_self, and_true, true_and, and_false, false_and, or_true, true_or, or_false, false_or, not_true_eq_false, not_false_eq_true, ne_eq, ↓reduceIte, Nat.succ_ne_self, reduceCtorEq]; done)) (ksS (by first | rfl | (simp only [kLsA, *, eq_self, and_self, and_true, true_and, and_false, false_and, or_true, true_or, or_false, false_or, not_true_eq_false, not_false_eq_true, ne_eq, ↓reduceIte, Nat.succ_ne_self, reduceCtorEq]; done)) (ksS (by first | rfl | (simp only [kLsA, *, eq_self, and_self, and_true, true_and, and_false, false_and, or_true, true_or, or_false, false_or, not_true_eq_false, not_false_eq_true, ne_eq, ↓reduceIte, Nat.succ_ne_self, reduceCtorEq]; done)) (ksS (by first | rfl | (simp only [kLsA, *, eq_self, and_self, and_true, true_and, and_false, false_and, or_true, true_or, or_false, false_or, not_true_eq_false, not_false_eq_true, ne_eq, ↓reduceIte, Nat.succ_ne_self, reduceCtorEq]; done)) ksN))))

set_option maxRecDepth 20000 in
set_option maxHeartbeats 4000000 in
theorem qX3_most {w : KW} {l : Launch} {u : KMem} (hu : kWd u) {g : Nat → Int32} (hr : kRS 1 g u) (hg : kGI g) (left : Int32) (hl : ∃ m, m < 2 ^ kN g 1 ∧ left = nI m) : KC w l mX3_most 1 0 0 [.ref 385, .int left] u (kq (some (.int (kEnd g left 1))) u) := by
  have hx20 := (hg.cnt (k := 2) rfl).2
  have hc30 := (hg.cnt (k := 0) rfl).2
  have ht10 := (hg.cnt (k := 3) rfl).2
  have he40 := (hg.cnt (k := 4) rfl).2
  have hs16 := hg.cnt (k := 1) rfl
  refine KC.of (ls := [_, _, _, _]) rfl rfl (Nat.le_of_ble_eq_true rfl) ?_
  refine kv_iconst dX3_most_0 0 ki_0 ?_
  refine kv_istore_n (ls2 := [_, _, _, _]) dX3_most_1 rfl rfl rfl rfl ?_
  refine kv_iconst dX3_most_2 0 ki_0 ?_
  refine kv_istore_n (ls2 := [_, _, _, _]) dX3_most_3 rfl rfl rfl rfl ?_
  refine KV.loc (ls2 := [some (.ref 385), some (.int left), some (.int (kMsA g left 0)), some (.int (nI 0))]) ?_ (ksS (by first | rfl | (simp only [kMsA, *, eq_self, and_self, and_true, true_and, and_false, false_and, or_true, true_or, or_false, false_or, not_true_eq_false, not_false_eq_true, ne_eq, ↓reduceIte, Nat.succ_ne_self, reduceCtorEq]; done)) (ksS (by first | rfl | (simp only [kMsA, *, eq_self, and_self, and_true, true_and, and_false, false_and, or_true, true_or, or_false, false_or, not_true_eq_false, not_false_eq_true, ne_eq, ↓reduceIte, Nat.succ_ne_self, reduceCtorEq]; done)) (ksS (by first | rfl | (simp only [kMsA, *, eq_self, and_self, and_true, true_and, and_false, false_and, or_true, true_or, or_false, false_or, not_true_eq_false, not_false_eq_true, ne_eq, ↓reduceIte, Nat.succ_ne_self, reduceCtorEq]; done)) (ksS (by first | rfl | (simp only [kMsA, *, eq_self, and_self, and_true, true_and, and_false, false_and, or_true, true_or, or_false, false_or, not_true_eq_false, not_false_eq_true, ne_eq, ↓reduceIte, Nat.succ_ne_self, reduceCtorEq]; done)) ksN))))
  refine kn_loop (P := fun i => KV w l mX3_most 1 0 0 4 [some (.ref 385), some (.int left), some (.int (kMsA g left i)), some (.int (nI i))] [] u (kq (some (.int (kEnd g left 1))) u)) (kN g 1) ?_ (fun i hi ih => ?_)
  · refine kv_iload_n dX3_most_4 rfl ?_
    refine kv_aload_n dX3_most_5 rfl ?_
    refine kw_gR dX3_most_6 fX3_18 hu (by first | rfl | assumption) rfl rfl (by first | rfl | assumption) ?_
    refine kw_gI dX3_most_9 fX3_22 hu (by first | rfl | assumption) rfl rfl ?_
    rw [hr.n1, hs16.1]
    refine kv_icmp_ge dX3_most_12 43 (by decide) (fun h1 => ?_) (fun h1 => ?_)
    · refine kv_iload_n dX3_most_43 rfl ?_
      refine kv_if_ne dX3_most_44 52 (by decide) (fun h2 => ?_) (fun h2 => ?_)
      · have hz := h2
        refine kv_iload_n dX3_most_52 rfl ?_
        exact kv_iret dX3_most_53 rfl ⟨by first | rw [kMs_end hg hl hz] | (unfold kEnd; rw [if_pos hz]; rfl), rfl⟩
      · have hz := h2
        refine kv_bipush dX3_most_47 100 kb_100 ?_
        refine kv_goto dX3_most_49 53 (by decide) ?_
        exact kv_iret dX3_most_53 rfl ⟨by first | rw [kMs_end hg hl hz] | (unfold kEnd; rw [if_pos hz]; rfl), rfl⟩
    · exact (kn_nge h1).elim
  · refine kv_iload_n dX3_most_4 rfl ?_
    refine kv_aload_n dX3_most_5 rfl ?_
    refine kw_gR dX3_most_6 fX3_18 hu (by first | rfl | assumption) rfl rfl (by first | rfl | assumption) ?_
    refine kw_gI dX3_most_9 fX3_22 hu (by first | rfl | assumption) rfl rfl ?_
    rw [hr.n1, hs16.1]
    refine kv_icmp_ge dX3_most_12 43 (by decide) (fun h3 => ?_) (fun h3 => ?_)
    · exact absurd h3 (kn_ge hi (by omega))
    · refine kv_iload_n dX3_most_15 rfl ?_
      refine kv_iload_n dX3_most_16 rfl ?_
      refine kv_ishr dX3_most_17 ?_
      refine kv_iconst dX3_most_18 1 ki_1 ?_
      refine kv_iand dX3_most_19 ?_
      refine kv_if_eq dX3_most_20 37 (by decide) (fun h4 => ?_) (fun h4 => ?_)
      · refine kv_iinc (ls2 := [_, _, _, _]) dX3_most_37 (nI (i + 1)) rfl (kv_inc1 i) rfl rfl rfl rfl ?_
        refine kv_goto dX3_most_40 4 (by decide) ?_
        exact KV.loc ih (ksS (by first | rfl | (simp only [kMsA, *, eq_self, and_self, and_true, true_and, and_false, false_and, or_true, true_or, or_false, false_or, not_true_eq_false, not_false_eq_true, ne_eq, ↓reduceIte, Nat.succ_ne_self, reduceCtorEq]; done)) (ksS (by first | rfl | (simp only [kMsA, *, eq_self, and_self, and_true, true_and, and_false, false_and, or_true, true_or, or_false, false_or, not_true_eq_false, not_false_eq_true, ne_eq, ↓reduceIte, Nat.succ_ne_self, reduceCtorEq]; done)) (ksS (by first | rfl | (simp only [kMsA, *, eq_self, and_self, and_true, true_and, and_false, false_and, or_true, true_or, or_false, false_or, not_true_eq_false, not_false_eq_true, ne_eq, ↓reduceIte, Nat.succ_ne_self, reduceCtorEq]; done)) (ksS (by first | rfl | (simp only [kMsA, *, eq_self, and_self, and_true, true_and, and_false, false_and, or_true, true_or, or_false, false_or, not_true_eq_false, not_false_eq_true, ne_eq, ↓reduceIte, Nat.succ_ne_self, reduceCtorEq]; done)) ksN))))
      · refine kv_iload_n dX3_most_23 rfl ?_
        refine kv_aload_n dX3_most_24 rfl ?_
        refine kw_gR dX3_most_25 fX3_18 hu (by first | rfl | assumption) rfl rfl (by first | rfl | assumption) ?_
        refine kw_gR dX3_most_28 fX3_46 hu (by first | rfl | assumption) rfl rfl (by first | rfl | assumption) ?_
        refine kv_iload_n dX3_most_31 rfl ?_
        refine kw_il dX3_most_32 hu (by first | rfl | assumption) (i) rfl (by omega) rfl ?_
        rw [hr.fault hi]
        refine kw_mmax dX3_most_33 lX3_55 rfl (by omega) ?_
        refine kv_istore_n (ls2 := [_, _, _, _]) dX3_most_36 rfl rfl rfl rfl ?_
        refine kv_iinc (ls2 := [_, _, _, _]) dX3_most_37 (nI (i + 1)) rfl (kv_inc1 i) rfl rfl rfl rfl ?_
        refine kv_goto dX3_most_40 4 (by decide) ?_
        exact KV.loc ih (ksS (by first | rfl | (simp only [kMsA, *, eq_self, and_self, and_true, true_and, and_false, false_and, or_true, true_or, or_false, false_or, not_true_eq_false, not_false_eq_true, ne_eq, ↓reduceIte, Nat.succ_ne_self, reduceCtorEq]; done)) (ksS (by first | rfl | (simp only [kMsA, *, eq_self, and_self, and_true, true_and, and_false, false_and, or_true, true_or, or_false, false_or, not_true_eq_false, not_false_eq_true, ne_eq, ↓reduceIte, Nat.succ_ne_self, reduceCtorEq]; done)) (ksS (by first | rfl | (simp only [kMsA, *, eq_self, and_self, and_true, true_and, and_false, false_and, or_true, true_or, or_false, false_or, not_true_eq_false, not_false_eq_true, ne_eq, ↓reduceIte, Nat.succ_ne_self, reduceCtorEq]; done)) (ksS (by first | rfl | (simp only [kMsA, *, eq_self, and_self, and_true, true_and, and_false, false_and, or_true, true_or, or_false, false_or, not_true_eq_false, not_false_eq_true, ne_eq, ↓reduceIte, Nat.succ_ne_self, reduceCtorEq]; done)) ksN))))

set_option maxRecDepth 20000 in
set_option maxHeartbeats 4000000 in
theorem qX3_inForce {w : KW} {l : Launch} {u : KMem} (hu : kWd u) {g : Nat → Int32} (hr : kRS 1 g u) (hg : kGI g) (p0 p1 : Int32) : KC w l mX3_inForce 0 0 0 [.ref 385, .int p0, .int p1] u (kq (some (.int (kInF g p0 p1 (kN g 3)))) u) := by
  have hx20 := (hg.cnt (k := 2) rfl).2
  have hc30 := (hg.cnt (k := 0) rfl).2
  have ht10 := (hg.cnt (k := 3) rfl).2
  have he40 := (hg.cnt (k := 4) rfl).2
  have hs16 := hg.cnt (k := 1) rfl
  refine KC.of (ls := [_, _, _, _]) rfl rfl (Nat.le_of_ble_eq_true rfl) ?_
  refine kv_aload_n dX3_inForce_0 rfl ?_
  refine kw_gR dX3_inForce_1 fX3_18 hu (by first | rfl | assumption) rfl rfl (by first | rfl | assumption) ?_
  refine kw_gI dX3_inForce_4 fX3_89 hu (by first | rfl | assumption) rfl rfl ?_
  rw [hr.n3, (hg.cnt (k := 3) rfl).1]
  refine kv_iconst dX3_inForce_7 1 ki_1 ?_
  refine kv_isub dX3_inForce_8 ?_
  refine kv_istore_n (ls2 := [_, _, _, _]) dX3_inForce_9 rfl rfl rfl rfl ?_
  refine KV.loc (ls2 := [some (.ref 385), some (.int p0), some (.int p1), some (.int (nI (kN g 3 - 0) - 1))]) ?_ (ksS rfl (ksS rfl (ksS rfl (ksS rfl ksN))))
  refine kn_loop (P := fun i => kInF g p0 p1 (kN g 3 - i) = kInF g p0 p1 (kN g 3) → KV w l mX3_inForce 0 0 0 10 [some (.ref 385), some (.int p0), some (.int p1), some (.int (nI (kN g 3 - i) - 1))] [] u (kq (some (.int (kInF g p0 p1 (kN g 3)))) u)) (kN g 3) ?_ (fun i hi ih => ?_) rfl
  · intro hI
    rw [Nat.sub_self] at hI ⊢
    refine kv_iload_n dX3_inForce_10 rfl ?_
    refine kv_if_lt dX3_inForce_11 54 (by decide) (fun h1 => ?_) (fun h1 => ?_)
    · refine kv_iconst dX3_inForce_54 (-1) ki_m1 ?_
      exact kv_iret dX3_inForce_55 rfl ⟨by rw [← hI]; rfl, rfl⟩
    · exact absurd (by decide : (nI 0 - 1 : Int32) < 0) h1
  · intro hI
    obtain ⟨t, et⟩ : ∃ t, kN g 3 - i = t + 1 := ⟨kN g 3 - i - 1, by omega⟩
    have ht : t < kN g 3 := by omega
    have kt := ks_treaty t (by omega)
    have kt1 := kt.1
    have kt2 := kt.2.2.2
    rw [et] at hI
    rw [et, nI_pred]
    refine kv_iload_n dX3_inForce_10 rfl ?_
    refine kv_if_lt dX3_inForce_11 54 (by decide) (fun h2 => ?_) (fun h2 => ?_)
    · exact absurd h2 (nI_pos (by omega))
    · refine kv_aload_n dX3_inForce_14 rfl ?_
      refine kw_gR dX3_inForce_15 fX3_18 hu (by first | rfl | assumption) rfl rfl (by first | rfl | assumption) ?_
      refine kw_gR dX3_inForce_18 fX3_92 hu (by first | rfl | assumption) rfl rfl (by first | rfl | assumption) ?_
      refine kv_iload_n dX3_inForce_21 rfl ?_
      refine kw_al (t := 2) (n := 10) dX3_inForce_22 hu rfl rfl (t) rfl (by omega) rfl (by first | rfl | assumption) ?_
      refine kw_gI dX3_inForce_23 fX3_96 hu (by first | rfl | assumption) rfl rfl ?_
      rw [hr.tuse ht]
      refine kv_iload_n dX3_inForce_26 rfl ?_
      refine kv_icmp_ne dX3_inForce_27 48 (by decide) (fun h3 => ?_) (fun h3 => ?_)
      · have hn : ¬ (g (468 + 66 * t) = p0 ∧ ¬ p1 < g (468 + 66 * t + 1)) := fun q => h3 q.1
        refine kv_iinc (ls2 := [_, _, _, _]) dX3_inForce_48 _ rfl rfl rfl rfl rfl rfl ?_
        refine kv_goto dX3_inForce_51 10 (by decide) ?_
        rw [kInF, if_neg hn] at hI
        exact KV.loc (ih (by rw [show kN g 3 - (i + 1) = t by omega]; exact hI)) (ksS rfl (ksS rfl (ksS rfl (ksS (by rw [show kN g 3 - (i + 1) = t by omega]; exact congrArg (fun z => some (Value.int z)) (kn_m1 t)) ksN))))
      · have hq := h3
        refine kv_aload_n dX3_inForce_30 rfl ?_
        refine kw_gR dX3_inForce_31 fX3_18 hu (by first | rfl | assumption) rfl rfl (by first | rfl | assumption) ?_
        refine kw_gR dX3_inForce_34 fX3_92 hu (by first | rfl | assumption) rfl rfl (by first | rfl | assumption) ?_
        refine kv_iload_n dX3_inForce_37 rfl ?_
        refine kw_al (t := 2) (n := 10) dX3_inForce_38 hu rfl rfl (t) rfl (by omega) rfl (by first | rfl | assumption) ?_
        refine kw_gI dX3_inForce_39 fX3_101 hu (by first | rfl | assumption) rfl rfl ?_
        rw [hr.tday ht]
        refine kv_iload_n dX3_inForce_42 rfl ?_
        refine kv_icmp_gt dX3_inForce_43 48 (by decide) (fun h4 => ?_) (fun h4 => ?_)
        · have hn : ¬ (g (468 + 66 * t) = p0 ∧ ¬ p1 < g (468 + 66 * t + 1)) := fun q => q.2 h4
          refine kv_iinc (ls2 := [_, _, _, _]) dX3_inForce_48 _ rfl rfl rfl rfl rfl rfl ?_
          refine kv_goto dX3_inForce_51 10 (by decide) ?_
          rw [kInF, if_neg hn] at hI
          exact KV.loc (ih (by rw [show kN g 3 - (i + 1) = t by omega]; exact hI)) (ksS rfl (ksS rfl (ksS rfl (ksS (by rw [show kN g 3 - (i + 1) = t by omega]; exact congrArg (fun z => some (Value.int z)) (kn_m1 t)) ksN))))
        · have hp := h4
          refine kv_iload_n dX3_inForce_46 rfl ?_
          exact kv_iret dX3_inForce_47 rfl ⟨by rw [← hI, kInF, if_pos ⟨hq, hp⟩], rfl⟩

set_option maxRecDepth 20000 in
set_option maxHeartbeats 4000000 in
theorem qX3_book {w : KW} {l : Launch} {u : KMem} (hu : kWd u) {g : Nat → Int32} (hr : kRS 1 g u) (hg : kGI g) (c : Nat) (hc : c < kN g 0) : KC w l mX3_book 0 0 0 [.ref 385, .ref (1 + (12 + 2 * c))] u (kq (some (.int (kBook g c))) u) := by
  have hx20 := (hg.cnt (k := 2) rfl).2
  have hc30 := (hg.cnt (k := 0) rfl).2
  have ht10 := (hg.cnt (k := 3) rfl).2
  have he40 := (hg.cnt (k := 4) rfl).2
  have hs16 := hg.cnt (k := 1) rfl
  have hag := (hg.2.2.2.1 c hc).2.2.1.n (by omega)
  have kc1 := (ks_car c (by omega)).1
  refine KC.of (ls := [_, _, _, _]) rfl rfl (Nat.le_of_ble_eq_true rfl) ?_
  refine kv_aload_n dX3_book_0 rfl ?_
  refine kw_gI dX3_book_1 fX3_106 hu (by first | rfl | assumption) rfl rfl ?_
  rw [hr.car hc 1 (by decide)]
  refine kv_istore_n (ls2 := [_, _, _, _]) dX3_book_4 rfl rfl rfl rfl ?_
  refine kv_iconst dX3_book_5 0 ki_0 ?_
  refine kv_istore_n (ls2 := [_, _, _, _]) dX3_book_6 rfl rfl rfl rfl ?_
  refine KV.loc (ls2 := [some (.ref 385), some (.ref (1 + (12 + 2 * c))), some (.int (kBookA g c 0)), some (.int (nI 0))]) ?_ (ksS rfl (ksS rfl (ksS rfl (ksS rfl ksN))))
  refine kn_loop (P := fun i => KV w l mX3_book 0 0 0 7 [some (.ref 385), some (.ref (1 + (12 + 2 * c))), some (.int (kBookA g c i)), some (.int (nI i))] [] u (kq (some (.int (kBook g c))) u)) (kN g (40 + 8 * c + 2)) ?_ (fun i hi ih => ?_)
  · refine kv_iload_n dX3_book_7 rfl ?_
    refine kv_aload_n dX3_book_8 rfl ?_
    refine kw_gI dX3_book_9 fX3_111 hu (by first | rfl | assumption) rfl rfl ?_
    rw [hr.car hc 2 (by decide), hag.1]
    refine kv_icmp_ge dX3_book_12 39 (by decide) (fun h1 => ?_) (fun h1 => ?_)
    · refine kv_iload_n dX3_book_39 rfl ?_
      exact kv_iret dX3_book_40 rfl ⟨rfl, rfl⟩
    · exact (kn_nge h1).elim
  · refine kv_iload_n dX3_book_7 rfl ?_
    refine kv_aload_n dX3_book_8 rfl ?_
    refine kw_gI dX3_book_9 fX3_111 hu (by first | rfl | assumption) rfl rfl ?_
    rw [hr.car hc 2 (by decide), hag.1]
    refine kv_icmp_ge dX3_book_12 39 (by decide) (fun h2 => ?_) (fun h2 => ?_)
    · exact absurd h2 (kn_ge hi (by omega))
    · refine kv_iload_n dX3_book_15 rfl ?_
      refine kv_bipush dX3_book_16 100 kb_100 ?_
      refine kv_aload_n dX3_book_18 rfl ?_
      refine kw_gR dX3_book_19 fX3_18 hu (by first | rfl | assumption) rfl rfl (by first | rfl | assumption) ?_
      refine kw_gR dX3_book_22 fX3_114 hu (by first | rfl | assumption) rfl rfl (by first | rfl | assumption) ?_
      refine kv_iconst dX3_book_25 1 ki_1 ?_
      refine kw_il dX3_book_26 hu (by first | rfl | assumption) (_) (show (1 : Int32) = nI 1 from rfl) (by omega) rfl ?_
      rw [hr.rate 1 (by decide)]
      refine kv_isub dX3_book_27 ?_
      refine kv_imul dX3_book_28 ?_
      refine kv_bipush dX3_book_29 100 kb_100 ?_
      refine kv_idiv dX3_book_31 (by decide) ?_
      refine kv_istore_n (ls2 := [_, _, _, _]) dX3_book_32 rfl rfl rfl rfl ?_
      refine kv_iinc (ls2 := [_, _, _, _]) dX3_book_33 (nI (i + 1)) rfl (kv_inc1 i) rfl rfl rfl rfl ?_
      refine kv_goto dX3_book_36 7 (by decide) ?_
      exact KV.loc ih (ksS rfl (ksS rfl (ksS rfl (ksS rfl ksN))))

