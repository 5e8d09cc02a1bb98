set_option maxRecDepth 20000 in
set_option maxHeartbeats 4000000 in
theorem qX1_freshOf {w : KW} {l : Launch} {u : KMem} (hu : kWd u) {g : Nat → Int32} (hr : kRS 1 g u) (hg : kGI g) (x : Nat) (hx : x < kN g 2) (s : Nat) (hs : s < 2) : KC w l mX1_freshOf 0 0 0 [.ref (1 + (72 + 3 * x)), .int (nI s)] u (kq (some (.int (kFresh g x s))) u) := by
  have hx20 := (hg.cnt (k := 2) rfl).2
  have hc30 := (hg.cnt (k := 0) rfl).2
  have ht10 := (hg.cnt (k := 3) rfl).2
  have he40 := (hg.cnt (k := 4) rfl).2
  have hs16 := hg.cnt (k := 1) rfl
  have kx := ks_crash x (by omega)
  have kx1 := kx.1
  have kx2 := kx.2.1
  have kx3 := kx.2.2.1
  have kx4 := kx.2.2.2.1
  have kx5 := kx.2.2.2.2.1
  have kx6 := kx.2.2.2.2.2
  refine KC.of (ls := [_, _]) rfl rfl (Nat.le_of_ble_eq_true rfl) ?_
  refine kv_iload_n dX1_freshOf_0 rfl ?_
  refine kv_if_ne dX1_freshOf_1 14 (by decide) (fun h1 => ?_) (fun h1 => ?_)
  · have hs1 : s = 1 := by have : ¬ s = 0 := fun q => h1 (by rw [q]; rfl); omega
    subst hs1
    refine kv_aload_n dX1_freshOf_14 rfl ?_
    refine kw_gI dX1_freshOf_15 fX1_31 hu (by first | rfl | assumption) rfl rfl ?_
    rw [hr.fresh hx]
    refine kv_sipush dX1_freshOf_18 255 kz_255 ?_
    refine kv_iand dX1_freshOf_21 ?_
    exact kv_iret dX1_freshOf_22 rfl ⟨by first | rw [hg.fr0 hx] | rw [hg.fr1 hx], rfl⟩
  · have hs0 : s = 0 := (kn_eq (by omega) (by omega)).mp h1
    subst hs0
    refine kv_aload_n dX1_freshOf_4 rfl ?_
    refine kw_gI dX1_freshOf_5 fX1_31 hu (by first | rfl | assumption) rfl rfl ?_
    rw [hr.fresh hx]
    refine kv_bipush dX1_freshOf_8 8 kb_8 ?_
    refine kv_ishr dX1_freshOf_10 ?_
    refine kv_goto dX1_freshOf_11 22 (by decide) ?_
    exact kv_iret dX1_freshOf_22 rfl ⟨by first | rw [hg.fr0 hx] | rw [hg.fr1 hx], rfl⟩

set_option maxRecDepth 20000 in
set_option maxHeartbeats 4000000 in
theorem qX3_fitting {w : KW} {l : Launch} {u : KMem} (hu : kWd u) {g : Nat → Int32} (hr : kRS 1 g u) (hg : kGI g) (x : Nat) (hx : x < kN g 2) : KC w l mX3_fitting 0 0 0 [.ref 385, .ref (1 + (72 + 3 * x))] u (kq (some (.int (kFit g x))) u) := by
  have hx20 := (hg.cnt (k := 2) rfl).2
  have hc30 := (hg.cnt (k := 0) rfl).2
  have ht10 := (hg.cnt (k := 3) rfl).2
  have he40 := (hg.cnt (k := 4) rfl).2
  have hs16 := hg.cnt (k := 1) rfl
  have kx := ks_crash x (by omega)
  have kx1 := kx.1
  have kx2 := kx.2.1
  have kx3 := kx.2.2.1
  have kx4 := kx.2.2.2.1
  have kx5 := kx.2.2.2.2.1
  have kx6 := kx.2.2.2.2.2
  refine KC.of (ls := [_, _, _, _, _, _]) rfl rfl (Nat.le_of_ble_eq_true rfl) ?_
  refine kv_iconst dX3_fitting_0 0 ki_0 ?_
  refine kv_istore_n (ls2 := [_, _, _, _, _, _]) dX3_fitting_1 rfl rfl rfl rfl ?_
  refine kv_iconst dX3_fitting_2 0 ki_0 ?_
  refine kv_istore_n (ls2 := [_, _, _, _, _, _]) dX3_fitting_3 rfl rfl rfl rfl ?_
  refine KV.loc (ls2 := [some (.ref 385), some (.ref (1 + (72 + 3 * x))), some (.int (kFitA g (kFr2 g x) 0)), some (.int (nI 0)), none, none]) ?_ (ksS (by first | rfl | (simp only [kFitA, *, eq_self, and_self, and_true, true_and, and_false, false_and, or_true, true_or, or_false, false_or, not_true_eq_false, not_false_eq_true, ne_eq, ↓reduceIte, Nat.succ_ne_self, reduceCtorEq]; done)) (ksS (by first | rfl | (simp only [kFitA, *, eq_self, and_self, and_true, true_and, and_false, false_and, or_true, true_or, or_false, false_or, not_true_eq_false, not_false_eq_true, ne_eq, ↓reduceIte, Nat.succ_ne_self, reduceCtorEq]; done)) (ksS (by first | rfl | (simp only [kFitA, *, eq_self, and_self, and_true, true_and, and_false, false_and, or_true, true_or, or_false, false_or, not_true_eq_false, not_false_eq_true, ne_eq, ↓reduceIte, Nat.succ_ne_self, reduceCtorEq]; done)) (ksS (by first | rfl | (simp only [kFitA, *, eq_self, and_self, and_true, true_and, and_false, false_and, or_true, true_or, or_false, false_or, not_true_eq_false, not_false_eq_true, ne_eq, ↓reduceIte, Nat.succ_ne_self, reduceCtorEq]; done)) (ks0 (ks0 ksN))))))
  refine kn_loop (P := fun i => KV w l mX3_fitting 0 0 0 4 [some (.ref 385), some (.ref (1 + (72 + 3 * x))), some (.int (kFitA g (kFr2 g x) i)), some (.int (nI i)), none, none] [] u (kq (some (.int (kFit g x))) u)) (kN g 1) ?_ (fun i hi ih => ?_)
  · refine kv_iload_n dX3_fitting_4 rfl ?_
    refine kv_aload_n dX3_fitting_5 rfl ?_
    refine kw_gR dX3_fitting_6 fX3_18 hu (by first | rfl | assumption) rfl rfl (by first | rfl | assumption) ?_
    refine kw_gI dX3_fitting_9 fX3_22 hu (by first | rfl | assumption) rfl rfl ?_
    rw [hr.n1, hs16.1]
    refine kv_icmp_ge dX3_fitting_12 89 (by decide) (fun h1 => ?_) (fun h1 => ?_)
    · refine kv_iload_n dX3_fitting_89 rfl ?_
      exact kv_iret dX3_fitting_90 rfl ⟨by unfold kFit; rw [hg.fr2 hx], rfl⟩
    · exact (kn_nge h1).elim
  · refine kv_iload_n dX3_fitting_4 rfl ?_
    refine kv_aload_n dX3_fitting_5 rfl ?_
    refine kw_gR dX3_fitting_6 fX3_18 hu (by first | rfl | assumption) rfl rfl (by first | rfl | assumption) ?_
    refine kw_gI dX3_fitting_9 fX3_22 hu (by first | rfl | assumption) rfl rfl ?_
    rw [hr.n1, hs16.1]
    refine kv_icmp_ge dX3_fitting_12 89 (by decide) (fun h2 => ?_) (fun h2 => ?_)
    · exact absurd h2 (kn_ge hi (by omega))
    · refine kv_aload_n dX3_fitting_15 rfl ?_
      refine kw_gR dX3_fitting_16 fX3_18 hu (by first | rfl | assumption) rfl rfl (by first | rfl | assumption) ?_
      refine kw_gR dX3_fitting_19 fX3_28 hu (by first | rfl | assumption) rfl rfl (by first | rfl | assumption) ?_
      refine kv_iload_n dX3_fitting_22 rfl ?_
      refine kw_il dX3_fitting_23 hu (by first | rfl | assumption) (i) rfl (by omega) rfl ?_
      rw [hr.need hi]
      refine kv_aload_n dX3_fitting_24 rfl ?_
      refine kw_gI dX3_fitting_25 fX3_31 hu (by first | rfl | assumption) rfl rfl ?_
      rw [hr.fresh hx]
      refine kv_iconst dX3_fitting_28 (-1) ki_m1 ?_
      refine kv_ixor dX3_fitting_29 ?_
      refine kv_iand dX3_fitting_30 ?_
      refine kv_if_eq dX3_fitting_31 38 (by decide) (fun h3 => ?_) (fun h3 => ?_)
      · refine kv_iconst dX3_fitting_38 0 ki_0 ?_
        refine kv_istore (ls2 := [_, _, _, _, _, _]) dX3_fitting_39 rfl rfl rfl rfl ?_
        refine kv_aload_n dX3_fitting_41 rfl ?_
        refine kw_gI dX3_fitting_42 fX3_31 hu (by first | rfl | assumption) rfl rfl ?_
        rw [hr.fresh hx]
        refine kv_aload_n dX3_fitting_45 rfl ?_
        refine kw_gR dX3_fitting_46 fX3_18 hu (by first | rfl | assumption) rfl rfl (by first | rfl | assumption) ?_
        refine kw_gR dX3_fitting_49 fX3_36 hu (by first | rfl | assumption) rfl rfl (by first | rfl | assumption) ?_
        refine kv_iload_n dX3_fitting_52 rfl ?_
        refine kw_il dX3_fitting_53 hu (by first | rfl | assumption) (i) rfl (by omega) rfl ?_
        rw [hr.allow hi]
        refine kv_iconst dX3_fitting_54 (-1) ki_m1 ?_
        refine kv_ixor dX3_fitting_55 ?_
        refine kv_iand dX3_fitting_56 ?_
        refine kv_if_eq dX3_fitting_57 64 (by decide) (fun h4 => ?_) (fun h4 => ?_)
        · refine kv_iconst dX3_fitting_64 0 ki_0 ?_
          refine kv_istore (ls2 := [_, _, _, _, _, _]) dX3_fitting_65 rfl rfl rfl rfl ?_
          refine kv_iload dX3_fitting_67 rfl ?_
          refine kv_if_ne dX3_fitting_69 83 (by decide) (fun h5 => ?_) (fun h5 => ?_)
          · exact absurd h5 (by decide)
          · refine kv_iload dX3_fitting_72 rfl ?_
            refine kv_if_ne dX3_fitting_74 83 (by decide) (fun h6 => ?_) (fun h6 => ?_)
            · exact absurd h6 (by decide)
            · refine kv_iload_n dX3_fitting_77 rfl ?_
              refine kv_iconst dX3_fitting_78 1 ki_1 ?_
              refine kv_iload_n dX3_fitting_79 rfl ?_
              refine kv_ishl dX3_fitting_80 ?_
              refine kv_ior dX3_fitting_81 ?_
              refine kv_istore_n (ls2 := [_, _, _, _, _, _]) dX3_fitting_82 rfl rfl rfl rfl ?_
              refine kv_iinc (ls2 := [_, _, _, _, _, _]) dX3_fitting_83 (nI (i + 1)) rfl (kv_inc1 i) rfl rfl rfl rfl ?_
              refine kv_goto dX3_fitting_86 4 (by decide) ?_
              exact KV.loc ih (ksS (by first | rfl | (simp only [kFitA, *, eq_self, and_self, and_true, true_and, and_false, false_and, or_true, true_or, or_false, false_or, not_true_eq_false, not_false_eq_true, ne_eq, ↓reduceIte, Nat.succ_ne_self, reduceCtorEq]; done)) (ksS (by first | rfl | (simp only [kFitA, *, eq_self, and_self, and_true, true_and, and_false, false_and, or_true, true_or, or_false, false_or, not_true_eq_false, not_false_eq_true, ne_eq, ↓reduceIte, Nat.succ_ne_self, reduceCtorEq]; done)) (ksS (by first | rfl | (simp only [kFitA, *, eq_self, and_self, and_true, true_and, and_false, false_and, or_true, true_or, or_false, false_or, not_true_eq_false, not_false_eq_true, ne_eq, ↓reduceIte, Nat.succ_ne_self, reduceCtorEq]; done)) (ksS (by first | rfl | (simp only [kFitA, *, eq_self, and_self, and_true, true_and, and_false, false_and, or_true, true_or, or_false, false_or, not_true_eq_false, not_false_eq_true, ne_eq, ↓reduceIte, Nat.succ_ne_self, reduceCtorEq]; done)) (ks0 (ks0 ksN))))))
        · refine kv_iconst dX3_fitting_60 1 ki_1 ?_
          refine kv_goto dX3_fitting_61 65 (by decide) ?_
          refine kv_istore (ls2 := [_, _, _, _, _, _]) dX3_fitting_65 rfl rfl rfl rfl ?_
          refine kv_iload dX3_fitting_67 rfl ?_
          refine kv_if_ne dX3_fitting_69 83 (by decide) (fun h7 => ?_) (fun h7 => ?_)
          · exact absurd h7 (by decide)
          · refine kv_iload dX3_fitting_72 rfl ?_
            refine kv_if_ne dX3_fitting_74 83 (by decide) (fun h8 => ?_) (fun h8 => ?_)
            · refine kv_iinc (ls2 := [_, _, _, _, _, _]) dX3_fitting_83 (nI (i + 1)) rfl (kv_inc1 i) rfl rfl rfl rfl ?_
              refine kv_goto dX3_fitting_86 4 (by decide) ?_
              exact KV.loc ih (ksS (by first | rfl | (simp only [kFitA, *, eq_self, and_self, and_true, true_and, and_false, false_and, or_true, true_or, or_false, false_or, not_true_eq_false, not_false_eq_true, ne_eq, ↓reduceIte, Nat.succ_ne_self, reduceCtorEq]; done)) (ksS (by first | rfl | (simp only [kFitA, *, eq_self, and_self, and_true, true_and, and_false, false_and, or_true, true_or, or_false, false_or, not_true_eq_false, not_false_eq_true, ne_eq, ↓reduceIte, Nat.succ_ne_self, reduceCtorEq]; done)) (ksS (by first | rfl | (simp only [kFitA, *, eq_self, and_self, and_true, true_and, and_false, false_and, or_true, true_or, or_false, false_or, not_true_eq_false, not_false_eq_true, ne_eq, ↓reduceIte, Nat.succ_ne_self, reduceCtorEq]; done)) (ksS (by first | rfl | (simp only [kFitA, *, eq_self, and_self, and_true, true_and, and_false, false_and, or_true, true_or, or_false, false_or, not_true_eq_false, not_false_eq_true, ne_eq, ↓reduceIte, Nat.succ_ne_self, reduceCtorEq]; done)) (ks0 (ks0 ksN))))))
            · exact absurd h8 (by decide)
      · refine kv_iconst dX3_fitting_34 1 ki_1 ?_
        refine kv_goto dX3_fitting_35 39 (by decide) ?_
        refine kv_istore (ls2 := [_, _, _, _, _, _]) dX3_fitting_39 rfl rfl rfl rfl ?_
        refine kv_aload_n dX3_fitting_41 rfl ?_
        refine kw_gI dX3_fitting_42 fX3_31 hu (by first | rfl | assumption) rfl rfl ?_
        rw [hr.fresh hx]
        refine kv_aload_n dX3_fitting_45 rfl ?_
        refine kw_gR dX3_fitting_46 fX3_18 hu (by first | rfl | assumption) rfl rfl (by first | rfl | assumption) ?_
        refine kw_gR dX3_fitting_49 fX3_36 hu (by first | rfl | assumption) rfl rfl (by first | rfl | assumption) ?_
        refine kv_iload_n dX3_fitting_52 rfl ?_
        refine kw_il dX3_fitting_53 hu (by first | rfl | assumption) (i) rfl (by omega) rfl ?_
        rw [hr.allow hi]
        refine kv_iconst dX3_fitting_54 (-1) ki_m1 ?_
        refine kv_ixor dX3_fitting_55 ?_
        refine kv_iand dX3_fitting_56 ?_
        refine kv_if_eq dX3_fitting_57 64 (by decide) (fun h9 => ?_) (fun h9 => ?_)
        · refine kv_iconst dX3_fitting_64 0 ki_0 ?_
          refine kv_istore (ls2 := [_, _, _, _, _, _]) dX3_fitting_65 rfl rfl rfl rfl ?_
          refine kv_iload dX3_fitting_67 rfl ?_
          refine kv_if_ne dX3_fitting_69 83 (by decide) (fun h10 => ?_) (fun h10 => ?_)
          · refine kv_iinc (ls2 := [_, _, _, _, _, _]) dX3_fitting_83 (nI (i + 1)) rfl (kv_inc1 i) rfl rfl rfl rfl ?_
            refine kv_goto dX3_fitting_86 4 (by decide) ?_
            exact KV.loc ih (ksS (by first | rfl | (simp only [kFitA, *, eq_self, and_self, and_true, true_and, and_false, false_and, or_true, true_or, or_false, false_or, not_true_eq_false, not_false_eq_true, ne_eq, ↓reduceIte, Nat.succ_ne_self, reduceCtorEq]; done)) (ksS (by first | rfl | (simp only [kFitA, *, eq_self, and_self, and_true, true_and, and_false, false_and, or_true, true_or, or_false, false_or, not_true_eq_false, not_false_eq_true, ne_eq, ↓reduceIte, Nat.succ_ne_self, reduceCtorEq]; done)) (ksS (by first | rfl | (simp only [kFitA, *, eq_self, and_self, and_true, true_and, and_false, false_and, or_true, true_or, or_false, false_or, not_true_eq_false, not_false_eq_true, ne_eq, ↓reduceIte, Nat.succ_ne_self, reduceCtorEq]; done)) (ksS (by first | rfl | (simp only [kFitA, *, eq_self, and_self, and_true, true_and, and_false, false_and, or_true, true_or, or_false, false_or, not_true_eq_false, not_false_eq_true, ne_eq, ↓reduceIte, Nat.succ_ne_self, reduceCtorEq]; done)) (ks0 (ks0 ksN))))))
          · exact absurd h10 (by decide)
        · refine kv_iconst dX3_fitting_60 1 ki_1 ?_
          refine kv_goto dX3_fitting_61 65 (by decide) ?_
          refine kv_istore (ls2 := [_, _, _, _, _, _]) dX3_fitting_65 rfl rfl rfl rfl ?_
          refine kv_iload dX3_fitting_67 rfl ?_
          refine kv_if_ne dX3_fitting_69 83 (by decide) (fun h11 => ?_) (fun h11 => ?_)
          · refine kv_iinc (ls2 := [_, _, _, _, _, _]) dX3_fitting_83 (nI (i + 1)) rfl (kv_inc1 i) rfl rfl rfl rfl ?_
            refine kv_goto dX3_fitting_86 4 (by decide) ?_
            exact KV.loc ih (ksS (by first | rfl | (simp only [kFitA, *, eq_self, and_self, and_true, true_and, and_false, false_and, or_true, true_or, or_false, false_or, not_true_eq_false, not_false_eq_true, ne_eq, ↓reduceIte, Nat.succ_ne_self, reduceCtorEq]; done)) (ksS (by first | rfl | (simp only [kFitA, *, eq_self, and_self, and_true, true_and, and_false, false_and, or_true, true_or, or_false, false_or, not_true_eq_false, not_false_eq_true, ne_eq, ↓reduceIte, Nat.succ_ne_self, reduceCtorEq]; done)) (ksS (by first | rfl | (simp only [kFitA, *, eq_self, and_self, and_true, true_and, and_false, false_and, or_true, true_or, or_false, false_or, not_true_eq_false, not_false_eq_true, ne_eq, ↓reduceIte, Nat.succ_ne_self, reduceCtorEq]; done)) (ksS (by first | rfl | (simp only [kFitA, *, eq_self, and_self, and_true, true_and, and_false, false_and, or_true, true_or, or_false, false_or, not_true_eq_false, not_false_eq_true, ne_eq, ↓reduceIte, Nat.succ_ne_self, reduceCtorEq]; done)) (ks0 (ks0 ksN))))))
          · exact absurd h11 (by decide)

