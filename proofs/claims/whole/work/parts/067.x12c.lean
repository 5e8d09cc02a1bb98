set_option maxRecDepth 20000 in
set_option maxHeartbeats 4000000 in
theorem qX12_zonesOf {w : KW} {l : Launch} {u : KMem} (hu : kWd u) (hg : kGI (u.2.1 414)) (x s : Nat) (hx : x < kN (u.2.1 414) 2) (hs : s < 2) (t : Nat) (ht : t < 3) : KC w l mX12_zonesOf 3 0 0 [.ref 413, .int (nI x), .int (nI s), .int (nI t)] u (kq (some (.int (kZn (u.2.1 414) x s t))) u) := by
  refine KC.of (ls := [_, _, _, _, _, _, _]) rfl rfl (Nat.le_of_ble_eq_true rfl) ?_
  refine kv_iconst dX12_zonesOf_0 0 ki_0 ?_
  refine kv_istore (ls2 := [_, _, _, _, _, _, _]) dX12_zonesOf_1 rfl rfl rfl rfl ?_
  refine kv_iconst dX12_zonesOf_3 0 ki_0 ?_
  refine kv_istore (ls2 := [_, _, _, _, _, _, _]) dX12_zonesOf_4 rfl rfl rfl rfl ?_
  refine KV.loc (ls2 := [some (.ref 413), some (.int (nI x)), some (.int (nI s)), some (.int (nI t)), some (.int (kZnA (u.2.1 414) (kFresh (u.2.1 414) x s) t 0)), some (.int (nI 0)), none]) ?_ (ksS (by first | rfl | (simp only [kZnA, *, eq_self, and_self, and_true, true_and, and_false, false_and, or_true, true_or, or_false, false_or, not_true_eq_false, not_false_eq_true, ne_eq, ↓reduceIte, Nat.succ_ne_self, reduceCtorEq]; done)) (ksS (by first | rfl | (simp only [kZnA, *, eq_self, and_self, and_true, true_and, and_false, false_and, or_true, true_or, or_false, false_or, not_true_eq_false, not_false_eq_true, ne_eq, ↓reduceIte, Nat.succ_ne_self, reduceCtorEq]; done)) (ksS (by first | rfl | (simp only [kZnA, *, eq_self, and_self, and_true, true_and, and_false, false_and, or_true, true_or, or_false, false_or, not_true_eq_false, not_false_eq_true, ne_eq, ↓reduceIte, Nat.succ_ne_self, reduceCtorEq]; done)) (ksS (by first | rfl | (simp only [kZnA, *, eq_self, and_self, and_true, true_and, and_false, false_and, or_true, true_or, or_false, false_or, not_true_eq_false, not_false_eq_true, ne_eq, ↓reduceIte, Nat.succ_ne_self, reduceCtorEq]; done)) (ksS (by first | rfl | (simp only [kZnA, *, eq_self, and_self, and_true, true_and, and_false, false_and, or_true, true_or, or_false, false_or, not_true_eq_false, not_false_eq_true, ne_eq, ↓reduceIte, Nat.succ_ne_self, reduceCtorEq]; done)) (ksS (by first | rfl | (simp only [kZnA, *, eq_self, and_self, and_true, true_and, and_false, false_and, or_true, true_or, or_false, false_or, not_true_eq_false, not_false_eq_true, ne_eq, ↓reduceIte, Nat.succ_ne_self, reduceCtorEq]; done)) (ks0 ksN)))))))
  refine kn_loop (P := fun i => KV w l mX12_zonesOf 3 0 0 6 [some (.ref 413), some (.int (nI x)), some (.int (nI s)), some (.int (nI t)), some (.int (kZnA (u.2.1 414) (kFresh (u.2.1 414) x s) t i)), some (.int (nI i)), none] [] u (kq (some (.int (kZn (u.2.1 414) x s t))) u)) (8) ?_ (fun i hi ih => ?_)
  · refine kv_iload dX12_zonesOf_6 rfl ?_
    refine kv_bipush dX12_zonesOf_8 8 kb_8 ?_
    refine kv_icmp_ge dX12_zonesOf_10 75 (by decide) (fun h1 => ?_) (fun h1 => ?_)
    · refine kv_iload dX12_zonesOf_75 rfl ?_
      exact kv_iret dX12_zonesOf_77 rfl ⟨rfl, rfl⟩
    · exact (kn_nge h1).elim
  · refine kv_iload dX12_zonesOf_6 rfl ?_
    refine kv_bipush dX12_zonesOf_8 8 kb_8 ?_
    refine kv_icmp_ge dX12_zonesOf_10 75 (by decide) (fun h2 => ?_) (fun h2 => ?_)
    · exact absurd h2 (kn_ge (n := 8) hi (by omega))
    · refine kv_aload_n dX12_zonesOf_13 rfl ?_
      refine kv_iload_n dX12_zonesOf_14 rfl ?_
      refine kv_iload_n dX12_zonesOf_15 rfl ?_
      refine kw_Vi [_, _] mX12_fresh dX12_zonesOf_16 lX12_119 wX12_fresh kC12 hu rfl (by first | rfl | assumption) rfl rfl rfl (qX12_fresh hu hg x s hx hs) (by decide) ?_
      refine kv_iload dX12_zonesOf_19 rfl ?_
      refine kw_Si [_, _] mX12_has dX12_zonesOf_21 lX12_128 wX12_has rfl rfl rfl (qX12_has hu _ _) (by decide) ?_
      refine kw_beq dX12_zonesOf_24 44 (by decide) (fun h3 => ?_) (fun h3 => ?_)
      · refine kv_iconst dX12_zonesOf_44 0 ki_0 ?_
        refine kv_istore (ls2 := [_, _, _, _, _, _, _]) dX12_zonesOf_45 rfl rfl rfl rfl ?_
        refine kv_iload_n dX12_zonesOf_47 rfl ?_
        refine kv_iconst dX12_zonesOf_48 2 ki_2 ?_
        refine kv_icmp_ne dX12_zonesOf_49 62 (by decide) (fun h4 => ?_) (fun h4 => ?_)
        · have ht2 : ¬ t = 2 := fun q => h4 (by rw [q]; rfl)
          refine kv_iload dX12_zonesOf_62 rfl ?_
          refine kv_iload dX12_zonesOf_64 rfl ?_
          refine kv_iadd dX12_zonesOf_66 ?_
          refine kv_istore (ls2 := [_, _, _, _, _, _, _]) dX12_zonesOf_67 rfl rfl rfl rfl ?_
          refine kv_iinc (ls2 := [_, _, _, _, _, _, _]) dX12_zonesOf_69 (nI (i + 1)) rfl (kv_inc1 i) rfl rfl rfl rfl ?_
          refine kv_goto dX12_zonesOf_72 6 (by decide) ?_
          exact KV.loc ih (ksS (by first | rfl | (simp only [kZnA, *, eq_self, and_self, and_true, true_and, and_false, false_and, or_true, true_or, or_false, false_or, not_true_eq_false, not_false_eq_true, ne_eq, ↓reduceIte, Nat.succ_ne_self, reduceCtorEq]; done)) (ksS (by first | rfl | (simp only [kZnA, *, eq_self, and_self, and_true, true_and, and_false, false_and, or_true, true_or, or_false, false_or, not_true_eq_false, not_false_eq_true, ne_eq, ↓reduceIte, Nat.succ_ne_self, reduceCtorEq]; done)) (ksS (by first | rfl | (simp only [kZnA, *, eq_self, and_self, and_true, true_and, and_false, false_and, or_true, true_or, or_false, false_or, not_true_eq_false, not_false_eq_true, ne_eq, ↓reduceIte, Nat.succ_ne_self, reduceCtorEq]; done)) (ksS (by first | rfl | (simp only [kZnA, *, eq_self, and_self, and_true, true_and, and_false, false_and, or_true, true_or, or_false, false_or, not_true_eq_false, not_false_eq_true, ne_eq, ↓reduceIte, Nat.succ_ne_self, reduceCtorEq]; done)) (ksS (by first | rfl | (simp only [kZnA, *, eq_self, and_self, and_true, true_and, and_false, false_and, or_true, true_or, or_false, false_or, not_true_eq_false, not_false_eq_true, ne_eq, ↓reduceIte, Nat.succ_ne_self, reduceCtorEq]; done)) (ksS (by first | rfl | (simp only [kZnA, *, eq_self, and_self, and_true, true_and, and_false, false_and, or_true, true_or, or_false, false_or, not_true_eq_false, not_false_eq_true, ne_eq, ↓reduceIte, Nat.succ_ne_self, reduceCtorEq]; done)) (ks0 ksN)))))))
        · have ht2 : t = 2 := (kn_eq (by omega) (by omega)).mp h4
          subst ht2
          refine kv_iload dX12_zonesOf_52 rfl ?_
          refine kv_iload dX12_zonesOf_54 rfl ?_
          refine kw_mmax dX12_zonesOf_56 lX12_136 rfl (by omega) ?_
          refine kv_goto dX12_zonesOf_59 67 (by decide) ?_
          refine kv_istore (ls2 := [_, _, _, _, _, _, _]) dX12_zonesOf_67 rfl rfl rfl rfl ?_
          refine kv_iinc (ls2 := [_, _, _, _, _, _, _]) dX12_zonesOf_69 (nI (i + 1)) rfl (kv_inc1 i) rfl rfl rfl rfl ?_
          refine kv_goto dX12_zonesOf_72 6 (by decide) ?_
          exact KV.loc ih (ksS (by first | rfl | (simp only [kZnA, *, eq_self, and_self, and_true, true_and, and_false, false_and, or_true, true_or, or_false, false_or, not_true_eq_false, not_false_eq_true, ne_eq, ↓reduceIte, Nat.succ_ne_self, reduceCtorEq]; done)) (ksS (by first | rfl | (simp only [kZnA, *, eq_self, and_self, and_true, true_and, and_false, false_and, or_true, true_or, or_false, false_or, not_true_eq_false, not_false_eq_true, ne_eq, ↓reduceIte, Nat.succ_ne_self, reduceCtorEq]; done)) (ksS (by first | rfl | (simp only [kZnA, *, eq_self, and_self, and_true, true_and, and_false, false_and, or_true, true_or, or_false, false_or, not_true_eq_false, not_false_eq_true, ne_eq, ↓reduceIte, Nat.succ_ne_self, reduceCtorEq]; done)) (ksS (by first | rfl | (simp only [kZnA, *, eq_self, and_self, and_true, true_and, and_false, false_and, or_true, true_or, or_false, false_or, not_true_eq_false, not_false_eq_true, ne_eq, ↓reduceIte, Nat.succ_ne_self, reduceCtorEq]; done)) (ksS (by first | rfl | (simp only [kZnA, *, eq_self, and_self, and_true, true_and, and_false, false_and, or_true, true_or, or_false, false_or, not_true_eq_false, not_false_eq_true, ne_eq, ↓reduceIte, Nat.succ_ne_self, reduceCtorEq]; done)) (ksS (by first | rfl | (simp only [kZnA, *, eq_self, and_self, and_true, true_and, and_false, false_and, or_true, true_or, or_false, false_or, not_true_eq_false, not_false_eq_true, ne_eq, ↓reduceIte, Nat.succ_ne_self, reduceCtorEq]; done)) (ks0 ksN)))))))
      · refine kv_aload_n dX12_zonesOf_27 rfl ?_
        refine kw_gR dX12_zonesOf_28 fX12_9 hu (by first | rfl | assumption) rfl rfl (by first | rfl | assumption) ?_
        refine kv_bipush dX12_zonesOf_31 16 kb_16 ?_
        refine kv_iconst dX12_zonesOf_33 3 ki_3 ?_
        refine kv_iload dX12_zonesOf_34 rfl ?_
        refine kv_imul dX12_zonesOf_36 ?_
        refine kv_iadd dX12_zonesOf_37 ?_
        refine kv_iload_n dX12_zonesOf_38 rfl ?_
        refine kv_iadd dX12_zonesOf_39 ?_
        refine kw_il dX12_zonesOf_40 hu (by first | rfl | assumption) (16 + 3 * i + t) (kn_add (kn_add rfl (kn_mul rfl rfl)) rfl) (by omega) rfl ?_
        refine kv_goto dX12_zonesOf_41 45 (by decide) ?_
        refine kv_istore (ls2 := [_, _, _, _, _, _, _]) dX12_zonesOf_45 rfl rfl rfl rfl ?_
        refine kv_iload_n dX12_zonesOf_47 rfl ?_
        refine kv_iconst dX12_zonesOf_48 2 ki_2 ?_
        refine kv_icmp_ne dX12_zonesOf_49 62 (by decide) (fun h5 => ?_) (fun h5 => ?_)
        · have ht2 : ¬ t = 2 := fun q => h5 (by rw [q]; rfl)
          refine kv_iload dX12_zonesOf_62 rfl ?_
          refine kv_iload dX12_zonesOf_64 rfl ?_
          refine kv_iadd dX12_zonesOf_66 ?_
          refine kv_istore (ls2 := [_, _, _, _, _, _, _]) dX12_zonesOf_67 rfl rfl rfl rfl ?_
          refine kv_iinc (ls2 := [_, _, _, _, _, _, _]) dX12_zonesOf_69 (nI (i + 1)) rfl (kv_inc1 i) rfl rfl rfl rfl ?_
          refine kv_goto dX12_zonesOf_72 6 (by decide) ?_
          exact KV.loc ih (ksS (by first | rfl | (simp only [kZnA, *, eq_self, and_self, and_true, true_and, and_false, false_and, or_true, true_or, or_false, false_or, not_true_eq_false, not_false_eq_true, ne_eq, ↓reduceIte, Nat.succ_ne_self, reduceCtorEq]; done)) (ksS (by first | rfl | (simp only [kZnA, *, eq_self, and_self, and_true, true_and, and_false, false_and, or_true, true_or, or_false, false_or, not_true_eq_false, not_false_eq_true, ne_eq, ↓reduceIte, Nat.succ_ne_self, reduceCtorEq]; done)) (ksS (by first | rfl | (simp only [kZnA, *, eq_self, and_self, and_true, true_and, and_false, false_and, or_true, true_or, or_false, false_or, not_true_eq_false, not_false_eq_true, ne_eq, ↓reduceIte, Nat.succ_ne_self, reduceCtorEq]; done)) (ksS (by first | rfl | (simp only [kZnA, *, eq_self, and_self, and_true, true_and, and_false, false_and, or_true, true_or, or_false, false_or, not_true_eq_false, not_false_eq_true, ne_eq, ↓reduceIte, Nat.succ_ne_self, reduceCtorEq]; done)) (ksS (by first | rfl | (simp only [kZnA, *, eq_self, and_self, and_true, true_and, and_false, false_and, or_true, true_or, or_false, false_or, not_true_eq_false, not_false_eq_true, ne_eq, ↓reduceIte, Nat.succ_ne_self, reduceCtorEq]; done)) (ksS (by first | rfl | (simp only [kZnA, *, eq_self, and_self, and_true, true_and, and_false, false_and, or_true, true_or, or_false, false_or, not_true_eq_false, not_false_eq_true, ne_eq, ↓reduceIte, Nat.succ_ne_self, reduceCtorEq]; done)) (ks0 ksN)))))))
        · have ht2 : t = 2 := (kn_eq (by omega) (by omega)).mp h5
          subst ht2
          refine kv_iload dX12_zonesOf_52 rfl ?_
          refine kv_iload dX12_zonesOf_54 rfl ?_
          refine kw_mmax dX12_zonesOf_56 lX12_136 rfl (by omega) ?_
          refine kv_goto dX12_zonesOf_59 67 (by decide) ?_
          refine kv_istore (ls2 := [_, _, _, _, _, _, _]) dX12_zonesOf_67 rfl rfl rfl rfl ?_
          refine kv_iinc (ls2 := [_, _, _, _, _, _, _]) dX12_zonesOf_69 (nI (i + 1)) rfl (kv_inc1 i) rfl rfl rfl rfl ?_
          refine kv_goto dX12_zonesOf_72 6 (by decide) ?_
          exact KV.loc ih (ksS (by first | rfl | (simp only [kZnA, *, eq_self, and_self, and_true, true_and, and_false, false_and, or_true, true_or, or_false, false_or, not_true_eq_false, not_false_eq_true, ne_eq, ↓reduceIte, Nat.succ_ne_self, reduceCtorEq]; done)) (ksS (by first | rfl | (simp only [kZnA, *, eq_self, and_self, and_true, true_and, and_false, false_and, or_true, true_or, or_false, false_or, not_true_eq_false, not_false_eq_true, ne_eq, ↓reduceIte, Nat.succ_ne_self, reduceCtorEq]; done)) (ksS (by first | rfl | (simp only [kZnA, *, eq_self, and_self, and_true, true_and, and_false, false_and, or_true, true_or, or_false, false_or, not_true_eq_false, not_false_eq_true, ne_eq, ↓reduceIte, Nat.succ_ne_self, reduceCtorEq]; done)) (ksS (by first | rfl | (simp only [kZnA, *, eq_self, and_self, and_true, true_and, and_false, false_and, or_true, true_or, or_false, false_or, not_true_eq_false, not_false_eq_true, ne_eq, ↓reduceIte, Nat.succ_ne_self, reduceCtorEq]; done)) (ksS (by first | rfl | (simp only [kZnA, *, eq_self, and_self, and_true, true_and, and_false, false_and, or_true, true_or, or_false, false_or, not_true_eq_false, not_false_eq_true, ne_eq, ↓reduceIte, Nat.succ_ne_self, reduceCtorEq]; done)) (ksS (by first | rfl | (simp only [kZnA, *, eq_self, and_self, and_true, true_and, and_false, false_and, or_true, true_or, or_false, false_or, not_true_eq_false, not_false_eq_true, ne_eq, ↓reduceIte, Nat.succ_ne_self, reduceCtorEq]; done)) (ks0 ksN)))))))

set_option maxRecDepth 20000 in
set_option maxHeartbeats 4000000 in
theorem qX12_repair {w : KW} {l : Launch} {u : KMem} (hu : kWd u) (hg : kGI (u.2.1 414)) (x s : Nat) (hx : x < kN (u.2.1 414) 2) (hs : s < 2) : KC w l mX12_repair 4 0 0 [.ref 413, .int (nI x), .int (nI s)] u (kq (some (.int (kRep (u.2.1 414) x s))) u) := by
  refine KC.of (ls := [_, _, _]) rfl rfl (Nat.le_of_ble_eq_true rfl) ?_
  refine kv_aload_n dX12_repair_0 rfl ?_
  refine kv_iload_n dX12_repair_1 rfl ?_
  refine kv_iload_n dX12_repair_2 rfl ?_
  refine kv_iconst dX12_repair_3 0 ki_0 ?_
  refine kw_Vi [_, _, _] mX12_zonesOf dX12_repair_4 lX12_162 wX12_zonesOf kC12 hu rfl (by first | rfl | assumption) rfl rfl rfl (qX12_zonesOf hu hg x s hx hs 0 (by decide)) (by decide) ?_
  refine kv_aload_n dX12_repair_7 rfl ?_
  refine kv_iload_n dX12_repair_8 rfl ?_
  refine kv_iload_n dX12_repair_9 rfl ?_
  refine kv_iconst dX12_repair_10 1 ki_1 ?_
  refine kw_Vi [_, _, _] mX12_zonesOf dX12_repair_11 lX12_162 wX12_zonesOf kC12 hu rfl (by first | rfl | assumption) rfl rfl rfl (qX12_zonesOf hu hg x s hx hs 1 (by decide)) (by decide) ?_
  refine kv_aload_n dX12_repair_14 rfl ?_
  refine kw_gR dX12_repair_15 fX12_9 hu (by first | rfl | assumption) rfl rfl (by first | rfl | assumption) ?_
  refine kv_bipush dX12_repair_18 8 kb_8 ?_
  refine kw_il dX12_repair_20 hu (by first | rfl | assumption) (_) (show (8 : Int32) = nI 8 from rfl) (by omega) rfl ?_
  refine kv_imul dX12_repair_21 ?_
  refine kv_iadd dX12_repair_22 ?_
  exact kv_iret dX12_repair_23 rfl ⟨rfl, rfl⟩

set_option maxRecDepth 20000 in
set_option maxHeartbeats 4000000 in
theorem qX12_isTotal {w : KW} {l : Launch} {u : KMem} (hu : kWd u) (hg : kGI (u.2.1 414)) (x s : Nat) (hx : x < kN (u.2.1 414) 2) (hs : s < 2) : KC w l mX12_isTotal 5 0 0 [.ref 413, .int (nI x), .int (nI s)] u (kq (some (.int (@ite _ (kTot (u.2.1 414) x s) (Classical.propDecidable _) 1 0))) u) := by
  have hx20 := (hg.cnt (k := 2) rfl).2
  have hc30 := (hg.cnt (k := 0) rfl).2
  have hco := hg.carOf hx hs
  refine KC.of (ls := [_, _, _]) rfl rfl (Nat.le_of_ble_eq_true rfl) ?_
  refine kv_ldc2 dX12_isTotal_0 kX12_166 ?_
  refine kv_aload_n dX12_isTotal_3 rfl ?_
  refine kv_iload_n dX12_isTotal_4 rfl ?_
  refine kv_iload_n dX12_isTotal_5 rfl ?_
  refine kw_Vi [_, _] mX12_repair dX12_isTotal_6 lX12_168 wX12_repair kC12 hu rfl (by first | rfl | assumption) rfl rfl rfl (qX12_repair hu hg x s hx hs) (by decide) ?_
  refine kv_i2l dX12_isTotal_9 ?_
  refine kv_lmul dX12_isTotal_10 ?_
  refine kv_aload_n dX12_isTotal_11 rfl ?_
  refine kw_gR dX12_isTotal_12 fX12_9 hu (by first | rfl | assumption) rfl rfl (by first | rfl | assumption) ?_
  refine kv_bipush dX12_isTotal_15 10 kb_10 ?_
  refine kw_il dX12_isTotal_17 hu (by first | rfl | assumption) (_) (show (10 : Int32) = nI 10 from rfl) (by omega) rfl ?_
  refine kv_i2l dX12_isTotal_18 ?_
  refine kv_aload_n dX12_isTotal_19 rfl ?_
  refine kv_aload_n dX12_isTotal_20 rfl ?_
  refine kv_iload_n dX12_isTotal_21 rfl ?_
  refine kv_iload_n dX12_isTotal_22 rfl ?_
  refine kw_Vi [_, _] mX12_carOf dX12_isTotal_23 lX12_116 wX12_carOf kC12 hu rfl (by first | rfl | assumption) rfl rfl rfl (qX12_carOf hu x s (by omega) hs) (by decide) ?_
  rw [hco.1]
  refine kw_Vi [_] mX12_bookOf dX12_isTotal_26 lX12_97 wX12_bookOf kC12 hu rfl (by first | rfl | assumption) rfl rfl rfl (qX12_bookOf hu hg (kCarOf (u.2.1 414) x s) hco.2) (by decide) ?_
  refine kv_i2l dX12_isTotal_29 ?_
  refine kv_lmul dX12_isTotal_30 ?_
  refine kv_lcmp dX12_isTotal_31 ?_
  refine kv_if_le dX12_isTotal_32 39 (by decide) (fun h1 => ?_) (fun h1 => ?_)
  · refine kv_iconst dX12_isTotal_39 0 ki_0 ?_
    exact kv_zret dX12_isTotal_40 rfl kv_z0 ⟨by first | rw [if_pos (show kTot _ _ _ from ‹_›)] | rw [if_neg (show ¬ kTot _ _ _ from fun q => q ‹_›)], rfl⟩
  · refine kv_iconst dX12_isTotal_35 1 ki_1 ?_
    refine kv_goto dX12_isTotal_36 40 (by decide) ?_
    exact kv_zret dX12_isTotal_40 rfl kv_z1 ⟨by first | rw [if_pos (show kTot _ _ _ from ‹_›)] | rw [if_neg (show ¬ kTot _ _ _ from fun q => q ‹_›)], rfl⟩

noncomputable def kLoss (g : Nat → Int32) (x s : Nat) : Int32 := @ite _ (kTot g x s) (Classical.propDecidable _) (kBook g (kCarOf g x s) - kBook g (kCarOf g x s) * g 11 / 100) (kRep g x s)
noncomputable def kHire (g : Nat → Int32) (x s : Nat) : Int32 := @ite _ (kTot g x s) (Classical.propDecidable _) 14 (kZn g x s 2 + (kZn g x s 1 + 7) / 8)
set_option maxRecDepth 20000 in
set_option maxHeartbeats 4000000 in
theorem qX12_lossOf {w : KW} {l : Launch} {u : KMem} (hu : kWd u) (hg : kGI (u.2.1 414)) (x s : Nat) (hx : x < kN (u.2.1 414) 2) (hs : s < 2) : KC w l mX12_lossOf 6 0 0 [.ref 413, .int (nI x), .int (nI s)] u (kq (some (.int (kLoss (u.2.1 414) x s))) u) := by
  have hx20 := (hg.cnt (k := 2) rfl).2
  have hc30 := (hg.cnt (k := 0) rfl).2
  have hco := hg.carOf hx hs
  refine KC.of (ls := [_, _, _, _]) rfl rfl (Nat.le_of_ble_eq_true rfl) ?_
  refine kv_aload_n dX12_lossOf_0 rfl ?_
  refine kv_aload_n dX12_lossOf_1 rfl ?_
  refine kv_iload_n dX12_lossOf_2 rfl ?_
  refine kv_iload_n dX12_lossOf_3 rfl ?_
  refine kw_Vi [_, _] mX12_carOf dX12_lossOf_4 lX12_116 wX12_carOf kC12 hu rfl (by first | rfl | assumption) rfl rfl rfl (qX12_carOf hu x s (by omega) hs) (by decide) ?_
  rw [hco.1]
  refine kw_Vi [_] mX12_bookOf dX12_lossOf_7 lX12_97 wX12_bookOf kC12 hu rfl (by first | rfl | assumption) rfl rfl rfl (qX12_bookOf hu hg (kCarOf (u.2.1 414) x s) hco.2) (by decide) ?_
  refine kv_istore_n (ls2 := [_, _, _, _]) dX12_lossOf_10 rfl rfl rfl rfl ?_
  refine kv_aload_n dX12_lossOf_11 rfl ?_
  refine kv_iload_n dX12_lossOf_12 rfl ?_
  refine kv_iload_n dX12_lossOf_13 rfl ?_
  refine kw_Vi [_, _] mX12_isTotal dX12_lossOf_14 lX12_171 wX12_isTotal kC12 hu rfl (by first | rfl | assumption) rfl rfl rfl (qX12_isTotal hu hg x s hx hs) (by decide) ?_
  refine kw_beq dX12_lossOf_17 37 (by decide) (fun h1 => ?_) (fun h1 => ?_)
  · refine kv_aload_n dX12_lossOf_37 rfl ?_
    refine kv_iload_n dX12_lossOf_38 rfl ?_
    refine kv_iload_n dX12_lossOf_39 rfl ?_
    refine kw_Vi [_, _] mX12_repair dX12_lossOf_40 lX12_168 wX12_repair kC12 hu rfl (by first | rfl | assumption) rfl rfl rfl (qX12_repair hu hg x s hx hs) (by decide) ?_
    exact kv_iret dX12_lossOf_43 rfl ⟨by unfold kLoss; first | rw [if_pos ‹_›] | rw [if_neg ‹_›], rfl⟩
  · refine kv_iload_n dX12_lossOf_20 rfl ?_
    refine kv_iload_n dX12_lossOf_21 rfl ?_
    refine kv_aload_n dX12_lossOf_22 rfl ?_
    refine kw_gR dX12_lossOf_23 fX12_9 hu (by first | rfl | assumption) rfl rfl (by first | rfl | assumption) ?_
    refine kv_bipush dX12_lossOf_26 11 kb_11 ?_
    refine kw_il dX12_lossOf_28 hu (by first | rfl | assumption) (_) (show (11 : Int32) = nI 11 from rfl) (by omega) rfl ?_
    refine kv_imul dX12_lossOf_29 ?_
    refine kv_bipush dX12_lossOf_30 100 kb_100 ?_
    refine kv_idiv dX12_lossOf_32 (by decide) ?_
    refine kv_isub dX12_lossOf_33 ?_
    refine kv_goto dX12_lossOf_34 43 (by decide) ?_
    exact kv_iret dX12_lossOf_43 rfl ⟨by unfold kLoss; first | rw [if_pos ‹_›] | rw [if_neg ‹_›], rfl⟩

set_option maxRecDepth 20000 in
set_option maxHeartbeats 4000000 in
theorem qX12_hireDays {w : KW} {l : Launch} {u : KMem} (hu : kWd u) (hg : kGI (u.2.1 414)) (x s : Nat) (hx : x < kN (u.2.1 414) 2) (hs : s < 2) : KC w l mX12_hireDays 6 0 0 [.ref 413, .int (nI x), .int (nI s)] u (kq (some (.int (kHire (u.2.1 414) x s))) u) := by
  refine KC.of (ls := [_, _, _]) rfl rfl (Nat.le_of_ble_eq_true rfl) ?_
  refine kv_aload_n dX12_hireDays_0 rfl ?_
  refine kv_iload_n dX12_hireDays_1 rfl ?_
  refine kv_iload_n dX12_hireDays_2 rfl ?_
  refine kw_Vi [_, _] mX12_isTotal dX12_hireDays_3 lX12_171 wX12_isTotal kC12 hu rfl (by first | rfl | assumption) rfl rfl rfl (qX12_isTotal hu hg x s hx hs) (by decide) ?_
  refine kw_beq dX12_hireDays_6 14 (by decide) (fun h1 => ?_) (fun h1 => ?_)
  · refine kv_aload_n dX12_hireDays_14 rfl ?_
    refine kv_iload_n dX12_hireDays_15 rfl ?_
    refine kv_iload_n dX12_hireDays_16 rfl ?_
    refine kv_iconst dX12_hireDays_17 2 ki_2 ?_
    refine kw_Vi [_, _, _] mX12_zonesOf dX12_hireDays_18 lX12_162 wX12_zonesOf kC12 hu rfl (by first | rfl | assumption) rfl rfl rfl (qX12_zonesOf hu hg x s hx hs 2 (by decide)) (by decide) ?_
    refine kv_aload_n dX12_hireDays_21 rfl ?_
    refine kv_iload_n dX12_hireDays_22 rfl ?_
    refine kv_iload_n dX12_hireDays_23 rfl ?_
    refine kv_iconst dX12_hireDays_24 1 ki_1 ?_
    refine kw_Vi [_, _, _] mX12_zonesOf dX12_hireDays_25 lX12_162 wX12_zonesOf kC12 hu rfl (by first | rfl | assumption) rfl rfl rfl (qX12_zonesOf hu hg x s hx hs 1 (by decide)) (by decide) ?_
    refine kv_bipush dX12_hireDays_28 7 kb_7 ?_
    refine kv_iadd dX12_hireDays_30 ?_
    refine kv_bipush dX12_hireDays_31 8 kb_8 ?_
    refine kv_idiv dX12_hireDays_33 (by decide) ?_
    refine kv_iadd dX12_hireDays_34 ?_
    exact kv_iret dX12_hireDays_35 rfl ⟨by unfold kHire; first | rw [if_pos ‹_›] | rw [if_neg ‹_›], rfl⟩
  · refine kv_bipush dX12_hireDays_9 14 kb_14 ?_
    refine kv_goto dX12_hireDays_11 35 (by decide) ?_
    exact kv_iret dX12_hireDays_35 rfl ⟨by unfold kHire; first | rw [if_pos ‹_›] | rw [if_neg ‹_›], rfl⟩

set_option maxRecDepth 20000 in
set_option maxHeartbeats 4000000 in
theorem qX12_done {w : KW} {l : Launch} {u : KMem} (hu : kWd u) (p0 p1 p2 : Int32) : KC w l mX12_done 1 0 0 [.int p0, .int p1, .int p2] u (kq (some (.int (kDone p0 p1 p2))) u) := by
  refine KC.of (ls := [_, _, _]) rfl rfl (Nat.le_of_ble_eq_true rfl) ?_
  refine kv_iload_n dX12_done_0 rfl ?_
  by_cases h1 : p0.toInt < 20000 ∨ 20009 < p0.toInt
  · refine kv_tableOut dX12_done_1 147 h1 (by decide) ?_
    refine kv_iload_n dX12_done_147 rfl ?_
    refine kv_iload_n dX12_done_148 rfl ?_
    refine kw_mmin dX12_done_149 lX12_131 rfl (by omega) ?_
    exact kv_iret dX12_done_152 rfl ⟨by rw [kDone_d (by assumption)], rfl⟩
  · rcases (show p0.toInt = 20000 ∨ p0.toInt = 20001 ∨ p0.toInt = 20002 ∨ p0.toInt = 20003 ∨ p0.toInt = 20004 ∨ p0.toInt = 20005 ∨ p0.toInt = 20006 ∨ p0.toInt = 20007 ∨ p0.toInt = 20008 ∨ p0.toInt = 20009 by omega) with hv | hv | hv | hv | hv | hv | hv | hv | hv | hv
    · obtain rfl : p0 = 20000 := kn_i32 (by rw [hv]; decide)
      refine kv_tableIn dX12_done_1 56 (by decide) (by decide) rfl (by decide) ?_
      refine kv_iload_n dX12_done_56 rfl ?_
      refine kv_if_ne dX12_done_57 64 (by decide) (fun h2 => ?_) (fun h2 => ?_)
      · refine kv_iconst dX12_done_64 1 ki_1 ?_
        refine kv_goto dX12_done_65 69 (by decide) ?_
        exact kv_iret dX12_done_69 rfl ⟨by unfold kDone; simp [*], rfl⟩
      · refine kv_iload_n dX12_done_60 rfl ?_
        refine kv_if_eq dX12_done_61 68 (by decide) (fun h3 => ?_) (fun h3 => ?_)
        · refine kv_iconst dX12_done_68 0 ki_0 ?_
          exact kv_iret dX12_done_69 rfl ⟨by unfold kDone; simp [*], rfl⟩
        · refine kv_iconst dX12_done_64 1 ki_1 ?_
          refine kv_goto dX12_done_65 69 (by decide) ?_
          exact kv_iret dX12_done_69 rfl ⟨by unfold kDone; simp [*], rfl⟩
    · obtain rfl : p0 = 20001 := kn_i32 (by rw [hv]; decide)
      refine kv_tableIn dX12_done_1 70 (by decide) (by decide) rfl (by decide) ?_
      refine kv_iload_n dX12_done_70 rfl ?_
      refine kv_if_eq dX12_done_71 82 (by decide) (fun h4 => ?_) (fun h4 => ?_)
      · refine kv_iconst dX12_done_82 0 ki_0 ?_
        exact kv_iret dX12_done_83 rfl ⟨by unfold kDone; simp [*], rfl⟩
      · refine kv_iload_n dX12_done_74 rfl ?_
        refine kv_if_eq dX12_done_75 82 (by decide) (fun h5 => ?_) (fun h5 => ?_)
        · refine kv_iconst dX12_done_82 0 ki_0 ?_
          exact kv_iret dX12_done_83 rfl ⟨by unfold kDone; simp [*], rfl⟩
        · refine kv_iconst dX12_done_78 1 ki_1 ?_
          refine kv_goto dX12_done_79 83 (by decide) ?_
          exact kv_iret dX12_done_83 rfl ⟨by unfold kDone; simp [*], rfl⟩
    · obtain rfl : p0 = 20002 := kn_i32 (by rw [hv]; decide)
      refine kv_tableIn dX12_done_1 84 (by decide) (by decide) rfl (by decide) ?_
      refine kv_iload_n dX12_done_84 rfl ?_
      refine kv_iload_n dX12_done_85 rfl ?_
      refine kv_icmp_ge dX12_done_86 93 (by decide) (fun h6 => ?_) (fun h6 => ?_)
      · refine kv_iconst dX12_done_93 0 ki_0 ?_
        exact kv_iret dX12_done_94 rfl ⟨by unfold kDone; simp [*], rfl⟩
      · refine kv_iconst dX12_done_89 1 ki_1 ?_
        refine kv_goto dX12_done_90 94 (by decide) ?_
        exact kv_iret dX12_done_94 rfl ⟨by unfold kDone; simp [*], rfl⟩
    · obtain rfl : p0 = 20003 := kn_i32 (by rw [hv]; decide)
      refine kv_tableIn dX12_done_1 95 (by decide) (by decide) rfl (by decide) ?_
      refine kv_iload_n dX12_done_95 rfl ?_
      refine kv_iload_n dX12_done_96 rfl ?_
      refine kv_icmp_ne dX12_done_97 104 (by decide) (fun h7 => ?_) (fun h7 => ?_)
      · refine kv_iconst dX12_done_104 0 ki_0 ?_
        exact kv_iret dX12_done_105 rfl ⟨by unfold kDone; simp [*], rfl⟩
      · refine kv_iconst dX12_done_100 1 ki_1 ?_
        refine kv_goto dX12_done_101 105 (by decide) ?_
        exact kv_iret dX12_done_105 rfl ⟨by unfold kDone; simp [*], rfl⟩
    · obtain rfl : p0 = 20004 := kn_i32 (by rw [hv]; decide)
      refine kv_tableIn dX12_done_1 106 (by decide) (by decide) rfl (by decide) ?_
      refine kv_iload_n dX12_done_106 rfl ?_
      refine kv_iload_n dX12_done_107 rfl ?_
      refine kv_icmp_le dX12_done_108 115 (by decide) (fun h8 => ?_) (fun h8 => ?_)
      · refine kv_iconst dX12_done_115 0 ki_0 ?_
        exact kv_iret dX12_done_116 rfl ⟨by unfold kDone; simp [*], rfl⟩
      · refine kv_iconst dX12_done_111 1 ki_1 ?_
        refine kv_goto dX12_done_112 116 (by decide) ?_
        exact kv_iret dX12_done_116 rfl ⟨by unfold kDone; simp [*], rfl⟩
    · obtain rfl : p0 = 20005 := kn_i32 (by rw [hv]; decide)
      refine kv_tableIn dX12_done_1 117 (by decide) (by decide) rfl (by decide) ?_
      refine kv_iload_n dX12_done_117 rfl ?_
      refine kv_iload_n dX12_done_118 rfl ?_
      refine kv_iadd dX12_done_119 ?_
      exact kv_iret dX12_done_120 rfl ⟨by unfold kDone; simp [*], rfl⟩
    · obtain rfl : p0 = 20006 := kn_i32 (by rw [hv]; decide)
      refine kv_tableIn dX12_done_1 121 (by decide) (by decide) rfl (by decide) ?_
      refine kv_iload_n dX12_done_121 rfl ?_
      refine kv_iload_n dX12_done_122 rfl ?_
      refine kv_isub dX12_done_123 ?_
      exact kv_iret dX12_done_124 rfl ⟨by unfold kDone; simp [*], rfl⟩
    · obtain rfl : p0 = 20007 := kn_i32 (by rw [hv]; decide)
      refine kv_tableIn dX12_done_1 125 (by decide) (by decide) rfl (by decide) ?_
      refine kv_iload_n dX12_done_125 rfl ?_
      refine kv_iload_n dX12_done_126 rfl ?_
      refine kv_imul dX12_done_127 ?_
      exact kv_iret dX12_done_128 rfl ⟨by unfold kDone; simp [*], rfl⟩
    · obtain rfl : p0 = 20008 := kn_i32 (by rw [hv]; decide)
      refine kv_tableIn dX12_done_1 129 (by decide) (by decide) rfl (by decide) ?_
      refine kv_iload_n dX12_done_129 rfl ?_
      refine kv_if_ne dX12_done_130 137 (by decide) (fun h9 => ?_) (fun h9 => ?_)
      · refine kv_iload_n dX12_done_137 rfl ?_
        refine kv_iload_n dX12_done_138 rfl ?_
        refine kv_idiv dX12_done_139 (by assumption) ?_
        exact kv_iret dX12_done_140 rfl ⟨by unfold kDone; simp [*], rfl⟩
      · refine kv_iconst dX12_done_133 0 ki_0 ?_
        refine kv_goto dX12_done_134 140 (by decide) ?_
        exact kv_iret dX12_done_140 rfl ⟨by unfold kDone; simp [*], rfl⟩
    · obtain rfl : p0 = 20009 := kn_i32 (by rw [hv]; decide)
      refine kv_tableIn dX12_done_1 141 (by decide) (by decide) rfl (by decide) ?_
      refine kv_iload_n dX12_done_141 rfl ?_
      refine kv_iload_n dX12_done_142 rfl ?_
      refine kw_mmax dX12_done_143 lX12_136 rfl (by omega) ?_
      exact kv_iret dX12_done_146 rfl ⟨by unfold kDone; simp [*], rfl⟩

theorem kGv_end {g : Nat → Int32} {t p : Nat} {a b c d : Int32} {v : KMem} {L : List Int32} (hD : kDep (fun k => g (468 + 66 * t + 3 + k)) (kN g (468 + 66 * t + 2)) = some 1) (hL : kGv (fun k => g (468 + 66 * t + 3 + k)) a b c d (kN g (468 + 66 * t + 2)) = L) (hP : kPi p v L) : some (Value.int (v.2.1 p 0)) = some (Value.int (kGiven g t a b c d)) := by
  have hl := kGv_len (a := a) (b := b) (c := c) (d := d) hD
  unfold kGiven
  rw [hL] at hl ⊢
  match L, hl, hP with
  | [x], _, hP =>
    have h1 : v.2.1 p 0 = x := hP.1
    rw [h1]; rfl
set_option maxRecDepth 20000 in
set_option maxHeartbeats 4000000 in
theorem qX12_given {w : KW} {l : Launch} {u : KMem} (hu : kWd u) (hg : kGI (u.2.1 414)) (t : Nat) (ht : t < kN (u.2.1 414) 3) (a b c d : Int32) : KC w l mX12_given 2 0 0 [.ref 413, .int (nI t), .int a, .int b, .int c, .int d] u (kp kSM u (some (.int (kGiven (u.2.1 414) t a b c d)))) := by
  have ht10 := (hg.cnt (k := 3) rfl).2
  obtain ⟨-, -, hn, hD⟩ := hg.2.2.2.2.2.2.1 t ht
  have hn0 : (u.2.1 414) (468 + 66 * t + 2) = nI (kN (u.2.1 414) (468 + 66 * t + 2)) ∧ kN (u.2.1 414) (468 + 66 * t + 2) ≤ 60 := hn.n (by omega)
  have hn60 := hn0.2
  refine KC.of (ls := [_, _, _, _, _, _, _, _, _, _]) rfl rfl (Nat.le_of_ble_eq_true rfl) ?_
  refine kv_sipush dX12_given_0 468 kz_468 ?_
  refine kv_bipush dX12_given_3 66 kb_66 ?_
  refine kv_iload_n dX12_given_5 rfl ?_
  refine kv_imul dX12_given_6 ?_
  refine kv_iadd dX12_given_7 ?_
  refine kv_iconst dX12_given_8 3 ki_3 ?_
  refine kv_iadd dX12_given_9 ?_
  rw [show (468 + 66 * nI t + 3 : Int32) = nI (468 + 66 * t + 3) from kn_add (kn_add rfl (kn_mul rfl rfl)) rfl]
  refine kv_istore (ls2 := [_, _, _, _, _, _, _, _, _, _]) dX12_given_10 rfl rfl rfl rfl ?_
  refine kv_iconst dX12_given_12 0 ki_0 ?_
  refine kv_istore (ls2 := [_, _, _, _, _, _, _, _, _, _]) dX12_given_13 rfl rfl rfl rfl ?_
  refine kv_iload dX12_given_15 rfl ?_
  refine kv_istore (ls2 := [_, _, _, _, _, _, _, _, _, _]) dX12_given_17 rfl rfl rfl rfl ?_
  refine KV.loc (ls2 := [some (.ref 413), some (.int (nI t)), some (.int a), some (.int b), some (.int c), some (.int d), some (.int (nI (468 + 66 * t + 3))), some (.int (nI 0)), some (.int (nI (468 + 66 * t + 3 + 0))), none]) ?_ (ksS rfl (ksS rfl (ksS rfl (ksS rfl (ksS rfl (ksS rfl (ksS rfl (ksS rfl (ksS rfl (ks0 ksN))))))))))
  refine kn_loop (P := fun i => ∀ (v : KMem) (L : List Int32), kGv (fun k => u.2.1 414 (468 + 66 * t + 3 + k)) a b c d i = L → kEq kSM u v → kPi 420 v L → KV w l mX12_given 2 0 0 19 [some (.ref 413), some (.int (nI t)), some (.int a), some (.int b), some (.int c), some (.int d), some (.int (nI (468 + 66 * t + 3))), some (.int (nI L.length)), some (.int (nI (468 + 66 * t + 3 + i))), none] [] v (kp kSM u (some (.int (kGiven (u.2.1 414) t a b c d))))) (kN (u.2.1 414) (468 + 66 * t + 2)) ?_ (fun i hi ih => ?_) u [] rfl kEq.rf trivial
  · intro v L hL E hP
    have hu2 := E.wd hu
    have g2 : v.2.1 414 = u.2.1 414 := E.row kSM_now
    refine kv_iload dX12_given_19 rfl ?_
    refine kv_iload dX12_given_21 rfl ?_
    refine kv_aload_n dX12_given_23 rfl ?_
    refine kw_gR dX12_given_24 fX12_9 hu2 (by first | rfl | assumption) rfl rfl (by first | rfl | assumption) ?_
    refine kv_iload dX12_given_27 rfl ?_
    refine kv_iconst dX12_given_29 1 ki_1 ?_
    refine kv_isub dX12_given_30 ?_
    refine kw_il dX12_given_31 hu2 (by first | rfl | assumption) (468 + 66 * t + 2) (by rw [show (1 : Int32) = nI 1 from rfl, pk_sub (by omega)]; rfl) (by omega) rfl ?_
    refine kv_iadd dX12_given_32 ?_
    rw [g2, hn0.1, nI_add]
    refine kv_icmp_ge dX12_given_33 224 (by decide) (fun h1 => ?_) (fun h1 => ?_)
    · refine kv_aload_n dX12_given_224 rfl ?_
      refine kw_gR dX12_given_225 fX12_37 hu2 (by first | rfl | assumption) rfl rfl (by first | rfl | assumption) ?_
      refine kv_iconst dX12_given_228 0 ki_0 ?_
      refine kw_il dX12_given_229 hu2 (by first | rfl | assumption) (0) rfl (by decide) rfl ?_
      exact kv_iret dX12_given_230 rfl ⟨kGv_end hD hL hP, E⟩
    · exact (kn_nge h1).elim
  · intro v L hL E hP
    have hu2 := E.wd hu
    have g2 : v.2.1 414 = u.2.1 414 := E.row kSM_now
    obtain ⟨hl, hone, htwo⟩ := kGv_at (a := a) (b := b) (c := c) (d := d) hD hi
    rw [hL] at hl hone htwo
    refine kv_iload dX12_given_19 rfl ?_
    refine kv_iload dX12_given_21 rfl ?_
    refine kv_aload_n dX12_given_23 rfl ?_
    refine kw_gR dX12_given_24 fX12_9 hu2 (by first | rfl | assumption) rfl rfl (by first | rfl | assumption) ?_
    refine kv_iload dX12_given_27 rfl ?_
    refine kv_iconst dX12_given_29 1 ki_1 ?_
    refine kv_isub dX12_given_30 ?_
    refine kw_il dX12_given_31 hu2 (by first | rfl | assumption) (468 + 66 * t + 2) (by rw [show (1 : Int32) = nI 1 from rfl, pk_sub (by omega)]; rfl) (by omega) rfl ?_
    refine kv_iadd dX12_given_32 ?_
    rw [g2, hn0.1, nI_add]
    refine kv_icmp_ge dX12_given_33 224 (by decide) (fun h2 => ?_) (fun h2 => ?_)
    · exact absurd h2 (kn_ge (n := 468 + 66 * t + 3 + kN (u.2.1 414) (468 + 66 * t + 2)) (by omega) (by omega))
    · refine kv_aload_n dX12_given_36 rfl ?_
      refine kw_gR dX12_given_37 fX12_9 hu2 (by first | rfl | assumption) rfl rfl (by first | rfl | assumption) ?_
      refine kv_iload dX12_given_40 rfl ?_
      refine kw_il dX12_given_42 hu2 (by first | rfl | assumption) (468 + 66 * t + 3 + i) rfl (by omega) rfl ?_
      rw [g2]
      refine kv_istore (ls2 := [_, _, _, _, _, _, _, _, _, _]) dX12_given_43 rfl rfl rfl rfl ?_
      refine kv_iload dX12_given_45 rfl ?_
      refine kv_sipush dX12_given_47 20000 kz_20000 ?_
      refine kv_icmp_ge dX12_given_50 118 (by decide) (fun h3 => ?_) (fun h3 => ?_)
      · refine kv_iload dX12_given_118 rfl ?_
        refine kv_sipush dX12_given_120 20011 kz_20011 ?_
        refine kv_icmp_ne dX12_given_123 155 (by decide) (fun h4 => ?_) (fun h4 => ?_)
        · refine kv_iload dX12_given_155 rfl ?_
          refine kv_sipush dX12_given_157 20012 kz_20012 ?_
          refine kv_icmp_ne dX12_given_160 185 (by decide) (fun h5 => ?_) (fun h5 => ?_)
          · obtain ⟨y, z, t2, rfl⟩ := htwo (by assumption) (by assumption) (by assumption)
            have hy : v.2.1 420 (t2.length + 1) = y := hP.1
            have hz : v.2.1 420 t2.length = z := hP.2.1
            refine kv_iinc (ls2 := [_, _, _, _, _, _, _, _, _, _]) dX12_given_185 (nI (t2.length + 1)) rfl (pk_m1 (t2.length + 1)) rfl rfl rfl rfl ?_
            refine kv_aload_n dX12_given_188 rfl ?_
            refine kw_gR dX12_given_189 fX12_37 hu2 (by first | rfl | assumption) rfl rfl (by first | rfl | assumption) ?_
            refine kv_iload dX12_given_192 rfl ?_
            refine kv_iconst dX12_given_194 1 ki_1 ?_
            refine kv_isub dX12_given_195 ?_
            refine kv_iload dX12_given_196 rfl ?_
            refine kv_aload_n dX12_given_198 rfl ?_
            refine kw_gR dX12_given_199 fX12_37 hu2 (by first | rfl | assumption) rfl rfl (by first | rfl | assumption) ?_
            refine kv_iload dX12_given_202 rfl ?_
            refine kv_iconst dX12_given_204 1 ki_1 ?_
            refine kv_isub dX12_given_205 ?_
            refine kw_il dX12_given_206 hu2 (by first | rfl | assumption) (t2.length) (nI_pred t2.length) (by simp at hl; omega) rfl ?_
            rw [hz]
            refine kv_aload_n dX12_given_207 rfl ?_
            refine kw_gR dX12_given_208 fX12_37 hu2 (by first | rfl | assumption) rfl rfl (by first | rfl | assumption) ?_
            refine kv_iload dX12_given_211 rfl ?_
            refine kw_il dX12_given_213 hu2 (by first | rfl | assumption) (t2.length + 1) rfl (by simp at hl; omega) rfl ?_
            rw [hy]
            refine kw_Si [_, _, _] mX12_done dX12_given_214 lX12_288 wX12_done rfl rfl rfl (qX12_done hu2 _ _ _) (by decide) ?_
            refine kw_is dX12_given_217 hu2 (by first | rfl | assumption) (t2.length) (nI_pred t2.length) (by simp at hl; omega) rfl ?_
            refine kv_iinc (ls2 := [_, _, _, _, _, _, _, _, _, _]) dX12_given_218 (nI (468 + 66 * t + 3 + (i + 1))) rfl (kv_inc1 _) rfl rfl rfl rfl ?_
            refine kv_goto dX12_given_221 19 (by decide) ?_
            first | exact KV.loc (ih _ _ (by rw [kGv, hL]; unfold kGs; simp [*]) (E.si (Or.inl (by omega))) hP.push) (ksS rfl (ksS rfl (ksS rfl (ksS rfl (ksS rfl (ksS rfl (ksS rfl (ksS rfl (ksS rfl (ks0 ksN)))))))))) | exact KV.loc (ih _ _ (by rw [kGv, hL]; unfold kGs; simp [*]) (E.si (Or.inl (by omega))) (kPi.push hP.2)) (ksS rfl (ksS rfl (ksS rfl (ksS rfl (ksS rfl (ksS rfl (ksS rfl (ksS rfl (ksS rfl (ks0 ksN)))))))))) | exact KV.loc (ih _ _ (by rw [kGv, hL]; unfold kGs; simp [*]) (E.si (Or.inl (by omega))) (kPi.push hP.2.2)) (ksS rfl (ksS rfl (ksS rfl (ksS rfl (ksS rfl (ksS rfl (ksS rfl (ksS rfl (ksS rfl (ks0 ksN))))))))))
          · obtain ⟨y, t2, rfl⟩ := hone (Or.inr (by assumption))
            have hy : v.2.1 420 t2.length = y := hP.1
            refine kv_aload_n dX12_given_163 rfl ?_
            refine kw_gR dX12_given_164 fX12_37 hu2 (by first | rfl | assumption) rfl rfl (by first | rfl | assumption) ?_
            refine kv_iload dX12_given_167 rfl ?_
            refine kv_iconst dX12_given_169 1 ki_1 ?_
            refine kv_isub dX12_given_170 ?_
            refine kv_aload_n dX12_given_171 rfl ?_
            refine kw_gR dX12_given_172 fX12_37 hu2 (by first | rfl | assumption) rfl rfl (by first | rfl | assumption) ?_
            refine kv_iload dX12_given_175 rfl ?_
            refine kv_iconst dX12_given_177 1 ki_1 ?_
            refine kv_isub dX12_given_178 ?_
            refine kw_il dX12_given_179 hu2 (by first | rfl | assumption) (t2.length) (nI_pred t2.length) (by simp at hl; omega) rfl ?_
            rw [hy]
            refine kv_ineg dX12_given_180 ?_
            refine kw_is dX12_given_181 hu2 (by first | rfl | assumption) (t2.length) (nI_pred t2.length) (by simp at hl; omega) rfl ?_
            refine kv_goto dX12_given_182 218 (by decide) ?_
            refine kv_iinc (ls2 := [_, _, _, _, _, _, _, _, _, _]) dX12_given_218 (nI (468 + 66 * t + 3 + (i + 1))) rfl (kv_inc1 _) rfl rfl rfl rfl ?_
            refine kv_goto dX12_given_221 19 (by decide) ?_
            first | exact KV.loc (ih _ _ (by rw [kGv, hL]; unfold kGs; simp [*]) (E.si (Or.inl (by omega))) hP.push) (ksS rfl (ksS rfl (ksS rfl (ksS rfl (ksS rfl (ksS rfl (ksS rfl (ksS rfl (ksS rfl (ks0 ksN)))))))))) | exact KV.loc (ih _ _ (by rw [kGv, hL]; unfold kGs; simp [*]) (E.si (Or.inl (by omega))) (kPi.push hP.2)) (ksS rfl (ksS rfl (ksS rfl (ksS rfl (ksS rfl (ksS rfl (ksS rfl (ksS rfl (ksS rfl (ks0 ksN)))))))))) | exact KV.loc (ih _ _ (by rw [kGv, hL]; unfold kGs; simp [*]) (E.si (Or.inl (by omega))) (kPi.push hP.2.2)) (ksS rfl (ksS rfl (ksS rfl (ksS rfl (ksS rfl (ksS rfl (ksS rfl (ksS rfl (ksS rfl (ks0 ksN))))))))))
        · obtain ⟨y, t2, rfl⟩ := hone (Or.inl (by assumption))
          have hy : v.2.1 420 t2.length = y := hP.1
          refine kv_aload_n dX12_given_126 rfl ?_
          refine kw_gR dX12_given_127 fX12_37 hu2 (by first | rfl | assumption) rfl rfl (by first | rfl | assumption) ?_
          refine kv_iload dX12_given_130 rfl ?_
          refine kv_iconst dX12_given_132 1 ki_1 ?_
          refine kv_isub dX12_given_133 ?_
          refine kv_aload_n dX12_given_134 rfl ?_
          refine kw_gR dX12_given_135 fX12_37 hu2 (by first | rfl | assumption) rfl rfl (by first | rfl | assumption) ?_
          refine kv_iload dX12_given_138 rfl ?_
          refine kv_iconst dX12_given_140 1 ki_1 ?_
          refine kv_isub dX12_given_141 ?_
          refine kw_il dX12_given_142 hu2 (by first | rfl | assumption) (t2.length) (nI_pred t2.length) (by simp at hl; omega) rfl ?_
          rw [hy]
          refine kv_if_ne dX12_given_143 150 (by decide) (fun h6 => ?_) (fun h6 => ?_)
          · refine kv_iconst dX12_given_150 0 ki_0 ?_
            refine kw_is dX12_given_151 hu2 (by first | rfl | assumption) (t2.length) (nI_pred t2.length) (by simp at hl; omega) rfl ?_
            refine kv_goto dX12_given_152 218 (by decide) ?_
            refine kv_iinc (ls2 := [_, _, _, _, _, _, _, _, _, _]) dX12_given_218 (nI (468 + 66 * t + 3 + (i + 1))) rfl (kv_inc1 _) rfl rfl rfl rfl ?_
            refine kv_goto dX12_given_221 19 (by decide) ?_
            first | exact KV.loc (ih _ _ (by rw [kGv, hL]; unfold kGs; simp [*]) (E.si (Or.inl (by omega))) hP.push) (ksS rfl (ksS rfl (ksS rfl (ksS rfl (ksS rfl (ksS rfl (ksS rfl (ksS rfl (ksS rfl (ks0 ksN)))))))))) | exact KV.loc (ih _ _ (by rw [kGv, hL]; unfold kGs; simp [*]) (E.si (Or.inl (by omega))) (kPi.push hP.2)) (ksS rfl (ksS rfl (ksS rfl (ksS rfl (ksS rfl (ksS rfl (ksS rfl (ksS rfl (ksS rfl (ks0 ksN)))))))))) | exact KV.loc (ih _ _ (by rw [kGv, hL]; unfold kGs; simp [*]) (E.si (Or.inl (by omega))) (kPi.push hP.2.2)) (ksS rfl (ksS rfl (ksS rfl (ksS rfl (ksS rfl (ksS rfl (ksS rfl (ksS rfl (ksS rfl (ks0 ksN))))))))))
          · refine kv_iconst dX12_given_146 1 ki_1 ?_
            refine kv_goto dX12_given_147 151 (by decide) ?_
            refine kw_is dX12_given_151 hu2 (by first | rfl | assumption) (t2.length) (nI_pred t2.length) (by simp at hl; omega) rfl ?_
            refine kv_goto dX12_given_152 218 (by decide) ?_
            refine kv_iinc (ls2 := [_, _, _, _, _, _, _, _, _, _]) dX12_given_218 (nI (468 + 66 * t + 3 + (i + 1))) rfl (kv_inc1 _) rfl rfl rfl rfl ?_
            refine kv_goto dX12_given_221 19 (by decide) ?_
            first | exact KV.loc (ih _ _ (by rw [kGv, hL]; unfold kGs; simp [*]) (E.si (Or.inl (by omega))) hP.push) (ksS rfl (ksS rfl (ksS rfl (ksS rfl (ksS rfl (ksS rfl (ksS rfl (ksS rfl (ksS rfl (ks0 ksN)))))))))) | exact KV.loc (ih _ _ (by rw [kGv, hL]; unfold kGs; simp [*]) (E.si (Or.inl (by omega))) (kPi.push hP.2)) (ksS rfl (ksS rfl (ksS rfl (ksS rfl (ksS rfl (ksS rfl (ksS rfl (ksS rfl (ksS rfl (ks0 ksN)))))))))) | exact KV.loc (ih _ _ (by rw [kGv, hL]; unfold kGs; simp [*]) (E.si (Or.inl (by omega))) (kPi.push hP.2.2)) (ksS rfl (ksS rfl (ksS rfl (ksS rfl (ksS rfl (ksS rfl (ksS rfl (ksS rfl (ksS rfl (ks0 ksN))))))))))
      · refine kv_aload_n dX12_given_53 rfl ?_
        refine kw_gR dX12_given_54 fX12_37 hu2 (by first | rfl | assumption) rfl rfl (by first | rfl | assumption) ?_
        refine kv_iload dX12_given_57 rfl ?_
        refine kv_iload dX12_given_59 rfl ?_
        refine kv_sipush dX12_given_61 10000 kz_10000 ?_
        refine kv_icmp_ge dX12_given_64 72 (by decide) (fun h7 => ?_) (fun h7 => ?_)
        · refine kv_iload dX12_given_72 rfl ?_
          refine kv_sipush dX12_given_74 10000 kz_10000 ?_
          refine kv_icmp_ne dX12_given_77 84 (by decide) (fun h8 => ?_) (fun h8 => ?_)
          · refine kv_iload dX12_given_84 rfl ?_
            refine kv_sipush dX12_given_86 10001 kz_10001 ?_
            refine kv_icmp_ne dX12_given_89 96 (by decide) (fun h9 => ?_) (fun h9 => ?_)
            · refine kv_iload dX12_given_96 rfl ?_
              refine kv_sipush dX12_given_98 10002 kz_10002 ?_
              refine kv_icmp_ne dX12_given_101 109 (by decide) (fun h10 => ?_) (fun h10 => ?_)
              · refine kv_iload dX12_given_109 rfl ?_
                refine kw_is dX12_given_111 hu2 (by first | rfl | assumption) (L.length) rfl (by omega) rfl ?_
                refine kv_iinc (ls2 := [_, _, _, _, _, _, _, _, _, _]) dX12_given_112 (nI (L.length + 1)) rfl (kv_inc1 _) rfl rfl rfl rfl ?_
                refine kv_goto dX12_given_115 218 (by decide) ?_
                refine kv_iinc (ls2 := [_, _, _, _, _, _, _, _, _, _]) dX12_given_218 (nI (468 + 66 * t + 3 + (i + 1))) rfl (kv_inc1 _) rfl rfl rfl rfl ?_
                refine kv_goto dX12_given_221 19 (by decide) ?_
                first | exact KV.loc (ih _ _ (by rw [kGv, hL]; unfold kGs; simp [*]) (E.si (Or.inl (by omega))) hP.push) (ksS rfl (ksS rfl (ksS rfl (ksS rfl (ksS rfl (ksS rfl (ksS rfl (ksS rfl (ksS rfl (ks0 ksN)))))))))) | exact KV.loc (ih _ _ (by rw [kGv, hL]; unfold kGs; simp [*]) (E.si (Or.inl (by omega))) (kPi.push hP.2)) (ksS rfl (ksS rfl (ksS rfl (ksS rfl (ksS rfl (ksS rfl (ksS rfl (ksS rfl (ksS rfl (ks0 ksN)))))))))) | exact KV.loc (ih _ _ (by rw [kGv, hL]; unfold kGs; simp [*]) (E.si (Or.inl (by omega))) (kPi.push hP.2.2)) (ksS rfl (ksS rfl (ksS rfl (ksS rfl (ksS rfl (ksS rfl (ksS rfl (ksS rfl (ksS rfl (ks0 ksN))))))))))
              · refine kv_iload dX12_given_104 rfl ?_
                refine kv_goto dX12_given_106 111 (by decide) ?_
                refine kw_is dX12_given_111 hu2 (by first | rfl | assumption) (L.length) rfl (by omega) rfl ?_
                refine kv_iinc (ls2 := [_, _, _, _, _, _, _, _, _, _]) dX12_given_112 (nI (L.length + 1)) rfl (kv_inc1 _) rfl rfl rfl rfl ?_
                refine kv_goto dX12_given_115 218 (by decide) ?_
                refine kv_iinc (ls2 := [_, _, _, _, _, _, _, _, _, _]) dX12_given_218 (nI (468 + 66 * t + 3 + (i + 1))) rfl (kv_inc1 _) rfl rfl rfl rfl ?_
                refine kv_goto dX12_given_221 19 (by decide) ?_
                first | exact KV.loc (ih _ _ (by rw [kGv, hL]; unfold kGs; simp [*]) (E.si (Or.inl (by omega))) hP.push) (ksS rfl (ksS rfl (ksS rfl (ksS rfl (ksS rfl (ksS rfl (ksS rfl (ksS rfl (ksS rfl (ks0 ksN)))))))))) | exact KV.loc (ih _ _ (by rw [kGv, hL]; unfold kGs; simp [*]) (E.si (Or.inl (by omega))) (kPi.push hP.2)) (ksS rfl (ksS rfl (ksS rfl (ksS rfl (ksS rfl (ksS rfl (ksS rfl (ksS rfl (ksS rfl (ks0 ksN)))))))))) | exact KV.loc (ih _ _ (by rw [kGv, hL]; unfold kGs; simp [*]) (E.si (Or.inl (by omega))) (kPi.push hP.2.2)) (ksS rfl (ksS rfl (ksS rfl (ksS rfl (ksS rfl (ksS rfl (ksS rfl (ksS rfl (ksS rfl (ks0 ksN))))))))))
            · refine kv_iload_n dX12_given_92 rfl ?_
              refine kv_goto dX12_given_93 111 (by decide) ?_
              refine kw_is dX12_given_111 hu2 (by first | rfl | assumption) (L.length) rfl (by omega) rfl ?_
              refine kv_iinc (ls2 := [_, _, _, _, _, _, _, _, _, _]) dX12_given_112 (nI (L.length + 1)) rfl (kv_inc1 _) rfl rfl rfl rfl ?_
              refine kv_goto dX12_given_115 218 (by decide) ?_
              refine kv_iinc (ls2 := [_, _, _, _, _, _, _, _, _, _]) dX12_given_218 (nI (468 + 66 * t + 3 + (i + 1))) rfl (kv_inc1 _) rfl rfl rfl rfl ?_
              refine kv_goto dX12_given_221 19 (by decide) ?_
              first | exact KV.loc (ih _ _ (by rw [kGv, hL]; unfold kGs; simp [*]) (E.si (Or.inl (by omega))) hP.push) (ksS rfl (ksS rfl (ksS rfl (ksS rfl (ksS rfl (ksS rfl (ksS rfl (ksS rfl (ksS rfl (ks0 ksN)))))))))) | exact KV.loc (ih _ _ (by rw [kGv, hL]; unfold kGs; simp [*]) (E.si (Or.inl (by omega))) (kPi.push hP.2)) (ksS rfl (ksS rfl (ksS rfl (ksS rfl (ksS rfl (ksS rfl (ksS rfl (ksS rfl (ksS rfl (ks0 ksN)))))))))) | exact KV.loc (ih _ _ (by rw [kGv, hL]; unfold kGs; simp [*]) (E.si (Or.inl (by omega))) (kPi.push hP.2.2)) (ksS rfl (ksS rfl (ksS rfl (ksS rfl (ksS rfl (ksS rfl (ksS rfl (ksS rfl (ksS rfl (ks0 ksN))))))))))
          · refine kv_iload_n dX12_given_80 rfl ?_
            refine kv_goto dX12_given_81 111 (by decide) ?_
            refine kw_is dX12_given_111 hu2 (by first | rfl | assumption) (L.length) rfl (by omega) rfl ?_
            refine kv_iinc (ls2 := [_, _, _, _, _, _, _, _, _, _]) dX12_given_112 (nI (L.length + 1)) rfl (kv_inc1 _) rfl rfl rfl rfl ?_
            refine kv_goto dX12_given_115 218 (by decide) ?_
            refine kv_iinc (ls2 := [_, _, _, _, _, _, _, _, _, _]) dX12_given_218 (nI (468 + 66 * t + 3 + (i + 1))) rfl (kv_inc1 _) rfl rfl rfl rfl ?_
            refine kv_goto dX12_given_221 19 (by decide) ?_
            first | exact KV.loc (ih _ _ (by rw [kGv, hL]; unfold kGs; simp [*]) (E.si (Or.inl (by omega))) hP.push) (ksS rfl (ksS rfl (ksS rfl (ksS rfl (ksS rfl (ksS rfl (ksS rfl (ksS rfl (ksS rfl (ks0 ksN)))))))))) | exact KV.loc (ih _ _ (by rw [kGv, hL]; unfold kGs; simp [*]) (E.si (Or.inl (by omega))) (kPi.push hP.2)) (ksS rfl (ksS rfl (ksS rfl (ksS rfl (ksS rfl (ksS rfl (ksS rfl (ksS rfl (ksS rfl (ks0 ksN)))))))))) | exact KV.loc (ih _ _ (by rw [kGv, hL]; unfold kGs; simp [*]) (E.si (Or.inl (by omega))) (kPi.push hP.2.2)) (ksS rfl (ksS rfl (ksS rfl (ksS rfl (ksS rfl (ksS rfl (ksS rfl (ksS rfl (ksS rfl (ks0 ksN))))))))))
        · refine kv_iload dX12_given_67 rfl ?_
          refine kv_goto dX12_given_69 111 (by decide) ?_
          refine kw_is dX12_given_111 hu2 (by first | rfl | assumption) (L.length) rfl (by omega) rfl ?_
          refine kv_iinc (ls2 := [_, _, _, _, _, _, _, _, _, _]) dX12_given_112 (nI (L.length + 1)) rfl (kv_inc1 _) rfl rfl rfl rfl ?_
          refine kv_goto dX12_given_115 218 (by decide) ?_
          refine kv_iinc (ls2 := [_, _, _, _, _, _, _, _, _, _]) dX12_given_218 (nI (468 + 66 * t + 3 + (i + 1))) rfl (kv_inc1 _) rfl rfl rfl rfl ?_
          refine kv_goto dX12_given_221 19 (by decide) ?_
          first | exact KV.loc (ih _ _ (by rw [kGv, hL]; unfold kGs; simp [*]) (E.si (Or.inl (by omega))) hP.push) (ksS rfl (ksS rfl (ksS rfl (ksS rfl (ksS rfl (ksS rfl (ksS rfl (ksS rfl (ksS rfl (ks0 ksN)))))))))) | exact KV.loc (ih _ _ (by rw [kGv, hL]; unfold kGs; simp [*]) (E.si (Or.inl (by omega))) (kPi.push hP.2)) (ksS rfl (ksS rfl (ksS rfl (ksS rfl (ksS rfl (ksS rfl (ksS rfl (ksS rfl (ksS rfl (ks0 ksN)))))))))) | exact KV.loc (ih _ _ (by rw [kGv, hL]; unfold kGs; simp [*]) (E.si (Or.inl (by omega))) (kPi.push hP.2.2)) (ksS rfl (ksS rfl (ksS rfl (ksS rfl (ksS rfl (ksS rfl (ksS rfl (ksS rfl (ksS rfl (ks0 ksN))))))))))

