/-! chain of the model -/
def kSO (a k : Nat) : Prop := a = 426 ∨ a = 427 ∨ (a = 413 ∧ k = 22)
def kDl (D : Nat → Nat → Bool) (pre : List Nat) : Nat → Bool := if pre.length = 0 then fun _ => true else D (pre.getD (pre.length - 1) 0)
theorem kDl_app (D : Nat → Nat → Bool) (pre : List Nat) (c : Nat) : kDl D (pre ++ [c]) = D c := by
  unfold kDl
  rw [if_neg (by rw [List.length_append]; exact Nat.succ_ne_zero _), List.length_append]
  congr 1
  show (pre ++ [c]).getD (pre.length + 1 - 1) 0 = c
  rw [Nat.add_sub_cancel, List.getD_eq_getElem?_getD, List.getElem?_append_right (Nat.le_refl _), Nat.sub_self]
  rfl
theorem kGetD_l {pre : List Nat} {c j : Nat} (h : j < pre.length) : (pre ++ [c]).getD j 0 = pre.getD j 0 := by
  rw [List.getD_eq_getElem?_getD, List.getElem?_append_left h, ← List.getD_eq_getElem?_getD]
theorem kGetD_r (pre : List Nat) (c : Nat) : (pre ++ [c]).getD pre.length 0 = c := by
  rw [List.getD_eq_getElem?_getD, List.getElem?_append_right (Nat.le_refl _), Nat.sub_self]
  rfl
def kTryP (u : KMem) (D : Nat → Nat → Bool) (m k used O : Nat) (pre : List Nat) (v : KMem) (r : Option Value) (z : KMem) : Prop := r = none ∧ kEq kSO u z ∧ (∀ j, j < pre.length → z.2.1 426 j = nI (pre.getD j 0)) ∧ z.2.1 413 22 = nI (O + kTn D m k used (kDl D pre)) ∧ (O = 0 ∧ 0 < kTn D m k used (kDl D pre) → ∀ j, j < m → z.2.1 427 j = nI ((pre ++ kFp D m k used (kDl D pre)).getD j 0)) ∧ (¬ (O = 0 ∧ 0 < kTn D m k used (kDl D pre)) → ∀ j, z.2.1 427 j = v.2.1 427 j)
set_option maxRecDepth 20000 in
set_option maxHeartbeats 4000000 in
theorem qX12_tryOrders_0 {w : KW} {l : Launch} {u : KMem} (hu : kWd u) {f : Nat → Int32} (ef : u.2.1 431 = f) (s : Nat) (hs : s < 4) (oo : Nat) (ho : oo ≤ 999) {off : Int32} (eo : off = nI oo) {m : Nat} (hm : m ≤ 6) (hm1 : 1 ≤ m) (pre : List Nat) (used O : Nat) (v : KMem) (hk : pre.length + 0 = m) (hus : used < 64) (E0 : kEq kSO u v) (h26 : ∀ j, j < pre.length → v.2.1 426 j = nI (pre.getD j 0)) (hlt : ∀ j, j < pre.length → pre.getD j 0 < m) (h22 : v.2.1 413 22 = nI O) (hO : O + kTn (kDr (fun j => f (24 * s + j)) off) m (0) used (kDl (kDr (fun j => f (24 * s + j)) off) pre) ≤ 1000000) : KC w l mX12_tryOrders 2 0 0 [.ref 413, .int (nI s), .int off, .int (nI m), .int (nI pre.length), .int (nI used)] v (kTryP u (kDr (fun j => f (24 * s + j)) off) m 0 used O pre v) := by
  have hv0 := E0.wd hu
  refine KC.of (ls := [_, _, _, _, _, _, _, _, _]) rfl rfl (Nat.le_of_ble_eq_true rfl) ?_
  refine kv_iload dX12_tryOrders_0 rfl ?_
  refine kv_iload_n dX12_tryOrders_2 rfl ?_
  refine kv_icmp_ne dX12_tryOrders_3 53 (by decide) (fun h1 => ?_) (fun h1 => ?_)
  · exact absurd (by rw [show pre.length = m by omega]) h1
  · refine kv_iconst dX12_tryOrders_6 0 ki_0 ?_
    refine kv_istore (ls2 := [_, _, _, _, _, _, _, _, _]) dX12_tryOrders_7 rfl rfl rfl rfl ?_
    refine KV.loc (ls2 := [some (.ref 413), some (.int (nI s)), some (.int off), some (.int (nI m)), some (.int (nI pre.length)), some (.int (nI used)), some (.int (nI (0))), none, none]) ?_ (ksS rfl (ksS rfl (ksS rfl (ksS rfl (ksS rfl (ksS rfl (ksS rfl (ks0 (ks0 ksN)))))))))
    refine kn_loop (P := fun i => ∀ z : KMem, kEq kSO u z → (∀ j, j < pre.length → z.2.1 426 j = nI (pre.getD j 0)) → z.2.1 413 22 = nI O → (O = 0 → ∀ j, j < i → z.2.1 427 j = nI (pre.getD j 0)) → (¬ O = 0 → ∀ j, z.2.1 427 j = v.2.1 427 j) → KV w l mX12_tryOrders 2 0 0 9 [some (.ref 413), some (.int (nI s)), some (.int off), some (.int (nI m)), some (.int (nI pre.length)), some (.int (nI used)), some (.int (nI i)), none, none] [] z (kTryP u (kDr (fun j => f (24 * s + j)) off) m 0 used O pre v)) (m) ?_ (fun i hi ih => ?_) v E0 h26 h22 (fun _ j hj => absurd hj (Nat.not_lt_zero j)) (fun _ j => rfl)
    · intro z E z26 z22 zy zn
      have hv := E.wd hu
      refine kv_iload dX12_tryOrders_9 rfl ?_
      refine kv_iload_n dX12_tryOrders_11 rfl ?_
      refine kv_icmp_ge dX12_tryOrders_12 42 (by decide) (fun h2 => ?_) (fun h2 => ?_)
      · refine kv_aload_n dX12_tryOrders_42 rfl ?_
        refine kv_dup dX12_tryOrders_43 rfl ?_
        refine kw_gI dX12_tryOrders_44 fX12_349 hv (by first | rfl | assumption) rfl rfl ?_
        rw [z22]
        refine kv_iconst dX12_tryOrders_47 1 ki_1 ?_
        refine kv_iadd dX12_tryOrders_48 ?_
        refine kw_pI dX12_tryOrders_49 fX12_349 hv (by first | rfl | assumption) rfl rfl ?_
        exact kv_vret dX12_tryOrders_52 rfl ⟨rfl, E.si (Or.inr (Or.inr ⟨rfl, rfl⟩)), fun j hj => (kv_si_a (by decide)).trans (z26 j hj), (kv_si_s _ _ _ _).trans (kn_add rfl (show (1 : Int32) = nI 1 from rfl)), fun q j hj => (kv_si_a (by decide)).trans ((zy q.1 j hj).trans (by show _ = nI ((pre ++ []).getD j 0); rw [List.append_nil])), fun q j => (kv_si_a (by decide)).trans (zn (fun y => q ⟨y, Nat.one_pos⟩) j)⟩
      · exact absurd h2 (fun q => q (Int32.le_refl _))
    · intro z E z26 z22 zy zn
      have hv := E.wd hu
      refine kv_iload dX12_tryOrders_9 rfl ?_
      refine kv_iload_n dX12_tryOrders_11 rfl ?_
      refine kv_icmp_ge dX12_tryOrders_12 42 (by decide) (fun h3 => ?_) (fun h3 => ?_)
      · exact absurd h3 (kn_ge hi (by omega))
      · refine kv_aload_n dX12_tryOrders_15 rfl ?_
        refine kw_gI dX12_tryOrders_16 fX12_349 hv (by first | rfl | assumption) rfl rfl ?_
        rw [z22]
        refine kv_if_ne dX12_tryOrders_19 42 (by decide) (fun h4 => ?_) (fun h4 => ?_)
        · have hO0 : ¬ O = 0 := fun q => h4 (by rw [q]; rfl)
          have zy : O = 0 → ∀ j, j < m → z.2.1 427 j = nI (pre.getD j 0) := fun q => absurd q hO0
          refine kv_aload_n dX12_tryOrders_42 rfl ?_
          refine kv_dup dX12_tryOrders_43 rfl ?_
          refine kw_gI dX12_tryOrders_44 fX12_349 hv (by first | rfl | assumption) rfl rfl ?_
          rw [z22]
          refine kv_iconst dX12_tryOrders_47 1 ki_1 ?_
          refine kv_iadd dX12_tryOrders_48 ?_
          refine kw_pI dX12_tryOrders_49 fX12_349 hv (by first | rfl | assumption) rfl rfl ?_
          exact kv_vret dX12_tryOrders_52 rfl ⟨rfl, E.si (Or.inr (Or.inr ⟨rfl, rfl⟩)), fun j hj => (kv_si_a (by decide)).trans (z26 j hj), (kv_si_s _ _ _ _).trans (kn_add rfl (show (1 : Int32) = nI 1 from rfl)), fun q j hj => (kv_si_a (by decide)).trans ((zy q.1 j hj).trans (by show _ = nI ((pre ++ []).getD j 0); rw [List.append_nil])), fun q j => (kv_si_a (by decide)).trans (zn (fun y => q ⟨y, Nat.one_pos⟩) j)⟩
        · have hO0 : O = 0 := (nI_eq (b := 0) (by omega) (by omega)).mp h4
          refine kv_aload_n dX12_tryOrders_22 rfl ?_
          refine kw_gR dX12_tryOrders_23 fX12_59 hv (by first | rfl | assumption) rfl rfl (by first | rfl | assumption) ?_
          refine kv_iload dX12_tryOrders_26 rfl ?_
          refine kv_aload_n dX12_tryOrders_28 rfl ?_
          refine kw_gR dX12_tryOrders_29 fX12_56 hv (by first | rfl | assumption) rfl rfl (by first | rfl | assumption) ?_
          refine kv_iload dX12_tryOrders_32 rfl ?_
          refine kw_il dX12_tryOrders_34 hv (by first | rfl | assumption) (i) rfl (by omega) rfl ?_
          rw [z26 i (by omega)]
          refine kw_is dX12_tryOrders_35 hv (by first | rfl | assumption) (i) rfl (by omega) rfl ?_
          refine kv_iinc (ls2 := [_, _, _, _, _, _, _, _, _]) dX12_tryOrders_36 (nI (i + 1)) rfl (kv_inc1 i) rfl rfl rfl rfl ?_
          refine kv_goto dX12_tryOrders_39 9 (by decide) ?_
          refine KV.loc (ih _ (E.si (Or.inr (Or.inl rfl))) (fun j hj => (kv_si_a (by decide)).trans (z26 j hj)) ((kv_si_a (by decide)).trans z22) (fun q j hj => ?_) (fun q => absurd hO0 q)) (ksS rfl (ksS rfl (ksS rfl (ksS rfl (ksS rfl (ksS rfl (ksS rfl (ks0 (ks0 ksN)))))))))
          by_cases y : j = i
          · rw [y, kv_si_s]
          · rw [kv_si_n (by omega)]; exact zy hO0 j (by omega)

theorem kSgm_m (f : Nat → Nat) {c m : Nat} (h : c < m) : kSgm f (c + 1) ≤ kSgm f m := by
  obtain ⟨j, rfl⟩ : ∃ j, m = c + 1 + j := ⟨m - (c + 1), by omega⟩
  induction j with
  | zero => exact Nat.le_refl _
  | succ j ih => exact Nat.le_trans (ih (by omega)) (by show _ ≤ kSgm f (c + 1 + j) + f (c + 1 + j); omega)
set_option maxRecDepth 20000 in
set_option maxHeartbeats 4000000 in
theorem qX12_tryOrders_s {w : KW} {l : Launch} {u : KMem} (hu : kWd u) {f : Nat → Int32} (ef : u.2.1 431 = f) (s : Nat) (hs : s < 4) (oo : Nat) (ho : oo ≤ 999) {off : Int32} (eo : off = nI oo) {m : Nat} (hm : m ≤ 6) (hm1 : 1 ≤ m) {k : Nat} (hI : ∀ (pre : List Nat) (used O : Nat) (v : KMem), pre.length + k = m → used < 64 → kEq kSO u v → (∀ j, j < pre.length → v.2.1 426 j = nI (pre.getD j 0)) → (∀ j, j < pre.length → pre.getD j 0 < m) → v.2.1 413 22 = nI O → O + kTn (kDr (fun j => f (24 * s + j)) off) m k used (kDl (kDr (fun j => f (24 * s + j)) off) pre) ≤ 1000000 → KC w l mX12_tryOrders (k + 2) 0 0 [.ref 413, .int (nI s), .int off, .int (nI m), .int (nI pre.length), .int (nI used)] v (kTryP u (kDr (fun j => f (24 * s + j)) off) m k used O pre v)) (pre : List Nat) (used O : Nat) (v : KMem) (hk : pre.length + (k + 1) = m) (hus : used < 64) (E0 : kEq kSO u v) (h26 : ∀ j, j < pre.length → v.2.1 426 j = nI (pre.getD j 0)) (hlt : ∀ j, j < pre.length → pre.getD j 0 < m) (h22 : v.2.1 413 22 = nI O) (hO : O + kTn (kDr (fun j => f (24 * s + j)) off) m (k + 1) used (kDl (kDr (fun j => f (24 * s + j)) off) pre) ≤ 1000000) : KC w l mX12_tryOrders (k + 3) 0 0 [.ref 413, .int (nI s), .int off, .int (nI m), .int (nI pre.length), .int (nI used)] v (kTryP u (kDr (fun j => f (24 * s + j)) off) m (k + 1) used O pre v) := by
  have hv0 := E0.wd hu
  refine KC.of (ls := [_, _, _, _, _, _, _, _, _]) rfl rfl (Nat.le_of_ble_eq_true rfl) ?_
  refine kv_iload dX12_tryOrders_0 rfl ?_
  refine kv_iload_n dX12_tryOrders_2 rfl ?_
  refine kv_icmp_ne dX12_tryOrders_3 53 (by decide) (fun h1 => ?_) (fun h1 => ?_)
  · refine kv_iconst dX12_tryOrders_53 0 ki_0 ?_
    refine kv_istore (ls2 := [_, _, _, _, _, _, _, _, _]) dX12_tryOrders_54 rfl rfl rfl rfl ?_
    refine KV.loc (ls2 := [some (.ref 413), some (.int (nI s)), some (.int off), some (.int (nI m)), some (.int (nI pre.length)), some (.int (nI used)), some (.int (nI (0))), none, none]) ?_ (ksS rfl (ksS rfl (ksS rfl (ksS rfl (ksS rfl (ksS rfl (ksS rfl (ks0 (ks0 ksN)))))))))
    refine kn_loop (P := fun c => ∀ z : KMem, kEq kSO u z → (∀ j, j < pre.length → z.2.1 426 j = nI (pre.getD j 0)) → z.2.1 413 22 = nI (O + kSgm (kT1 (kDr (fun j => f (24 * s + j)) off) m k used (kDl (kDr (fun j => f (24 * s + j)) off) pre)) c) → (O = 0 ∧ 0 < kSgm (kT1 (kDr (fun j => f (24 * s + j)) off) m k used (kDl (kDr (fun j => f (24 * s + j)) off) pre)) c → ∀ j, j < m → z.2.1 427 j = nI ((pre ++ kFp (kDr (fun j => f (24 * s + j)) off) m (k + 1) used (kDl (kDr (fun j => f (24 * s + j)) off) pre)).getD j 0)) → (¬ (O = 0 ∧ 0 < kSgm (kT1 (kDr (fun j => f (24 * s + j)) off) m k used (kDl (kDr (fun j => f (24 * s + j)) off) pre)) c) → ∀ j, z.2.1 427 j = v.2.1 427 j) → KV w l mX12_tryOrders (k + 3) 0 0 56 [some (.ref 413), some (.int (nI s)), some (.int off), some (.int (nI m)), some (.int (nI pre.length)), some (.int (nI used)), some (.int (nI c)), none, none] [] z (kTryP u (kDr (fun j => f (24 * s + j)) off) m (k + 1) used O pre v)) (m) ?_ (fun c hc ih => ?_) v E0 h26 h22 (fun q => absurd q.2 (Nat.lt_irrefl 0)) (fun _ j => rfl)
    · intro z E z26 z22 zy zn
      have hv := E.wd hu
      have e31 : z.2.1 431 = f := (E.row (fun k => by unfold kSO; omega)).trans ef
      refine kv_iload dX12_tryOrders_56 rfl ?_
      refine kv_iload_n dX12_tryOrders_58 rfl ?_
      refine kv_icmp_ge dX12_tryOrders_59 167 (by decide) (fun h2 => ?_) (fun h2 => ?_)
      · exact kv_vret dX12_tryOrders_167 rfl ⟨rfl, E, z26, z22, zy, zn⟩
      · exact absurd h2 (fun q => q (Int32.le_refl _))
    · have ihc := ih
      intro z E z26 z22 zy zn
      have hv := E.wd hu
      have e31 : z.2.1 431 = f := (E.row (fun k => by unfold kSO; omega)).trans ef
      have e1 : kSgm (kT1 (kDr (fun j => f (24 * s + j)) off) m k used (kDl (kDr (fun j => f (24 * s + j)) off) pre)) (c + 1) = kSgm (kT1 (kDr (fun j => f (24 * s + j)) off) m k used (kDl (kDr (fun j => f (24 * s + j)) off) pre)) c + (kT1 (kDr (fun j => f (24 * s + j)) off) m k used (kDl (kDr (fun j => f (24 * s + j)) off) pre)) c := rfl
      have hle : kSgm (kT1 (kDr (fun j => f (24 * s + j)) off) m k used (kDl (kDr (fun j => f (24 * s + j)) off) pre)) c + (kT1 (kDr (fun j => f (24 * s + j)) off) m k used (kDl (kDr (fun j => f (24 * s + j)) off) pre)) c ≤ kSgm (kT1 (kDr (fun j => f (24 * s + j)) off) m k used (kDl (kDr (fun j => f (24 * s + j)) off) pre)) m := by rw [← e1]; exact kSgm_m _ hc
      refine kv_iload dX12_tryOrders_56 rfl ?_
      refine kv_iload_n dX12_tryOrders_58 rfl ?_
      refine kv_icmp_ge dX12_tryOrders_59 167 (by decide) (fun h3 => ?_) (fun h3 => ?_)
      · exact absurd h3 (kn_ge hc (by omega))
      · by_cases hp : pre.length = 0
        · have hDy : ¬ 0 < lg_cmp (if (0 : Int64) < 0 then 0 else -0) off.toInt64 → kDl (kDr (fun j => f (24 * s + j)) off) pre c = true := fun _ => by unfold kDl; rw [if_pos hp]
          have hDn : 0 < lg_cmp (if (0 : Int64) < 0 then 0 else -0) off.toInt64 → ¬ kDl (kDr (fun j => f (24 * s + j)) off) pre c = true := fun q => by
            rw [eo, nI_l (by omega), lg_cmp_gt, show (if (0 : Int64) < 0 then (0 : Int64) else -0) = lN 0 from rfl, lN_lt (by omega) (by omega)] at q
            omega
          refine kv_iload dX12_tryOrders_62 rfl ?_
          refine kv_if_ne dX12_tryOrders_64 71 (by decide) (fun h4 => ?_) (fun h4 => ?_)
          · exact absurd (by rw [hp]; rfl) h4
          · refine kv_lconst dX12_tryOrders_67 0 kl_0 ?_
            refine kv_goto dX12_tryOrders_68 111 (by decide) ?_
            refine kv_lstore (ls2 := [_, _, _, _, _, _, _, _, _]) dX12_tryOrders_111 rfl rfl rfl rfl ?_
            refine kv_iload dX12_tryOrders_113 rfl ?_
            refine kv_iload dX12_tryOrders_115 rfl ?_
            refine kw_Si [_, _] mX12_has dX12_tryOrders_117 lX12_128 wX12_has rfl rfl rfl (qX12_has (by exact hv) _ _) (by omega) ?_
            refine kw_bne dX12_tryOrders_120 161 (by decide) (fun h5 => ?_) (fun h5 => ?_)
            · have hb := kb_tb ((kHas_ct (by omega)).mp h5)
              have hF : (kT1 (kDr (fun j => f (24 * s + j)) off) m k used (kDl (kDr (fun j => f (24 * s + j)) off) pre)) c = 0 := if_neg (by rw [hb]; exact Bool.false_ne_true)
              refine kv_iinc (ls2 := [_, _, _, _, _, _, _, _, _]) dX12_tryOrders_161 (nI (c + 1)) rfl (kv_inc1 c) rfl rfl rfl rfl ?_
              refine kv_goto dX12_tryOrders_164 56 (by decide) ?_
              first
              | exact KV.loc (ihc _ E z26 (by rw [e1, hF]; exact z22) (fun q => zy ⟨q.1, by have := q.2; rw [e1, hF] at this; exact this⟩) (fun q => zn (fun y => q ⟨y.1, by rw [e1, hF]; exact y.2⟩))) (ksS rfl (ksS rfl (ksS rfl (ksS rfl (ksS rfl (ksS rfl (ksS rfl (ks0 (ks0 ksN)))))))))
              | (refine KV.loc (ihc _ zE (fun j hj => (y26 j (by rw [List.length_append]; exact Nat.lt_succ_of_lt hj)).trans (congrArg nI (kGetD_l hj))) (by rw [e1, hF]; exact y22.trans (congrArg nI (by rw [kDl_app]; omega))) (fun q j hj => ?_) (fun q j => ?_)) (ksS rfl (ksS rfl (ksS rfl (ksS rfl (ksS rfl (ksS rfl (ksS rfl (ks0 (ks0 ksN)))))))))
                 · rw [e1, hF] at q
                   by_cases y : 0 < kSgm (kT1 (kDr (fun j => f (24 * s + j)) off) m k used (kDl (kDr (fun j => f (24 * s + j)) off) pre)) c
                   · rw [yn (fun y2 => by omega) j]
                     exact (kv_si_a (by decide)).trans (zy ⟨q.1, y⟩ j hj)
                   · have hT0 : 0 < kTn (kDr (fun j => f (24 * s + j)) off) m k (used ||| 2 ^ c) ((kDr (fun j => f (24 * s + j)) off) c) := by omega
                     have hfi : kFi (kT1 (kDr (fun j => f (24 * s + j)) off) m k used (kDl (kDr (fun j => f (24 * s + j)) off) pre)) m = c := kFi_is hc (by rw [hF]; exact hT0) (by omega)
                     rw [yy ⟨by omega, by rw [kDl_app]; exact hT0⟩ j hj, kDl_app, kFp_s _ _ _ _ _ hfi, List.append_assoc]
                     rfl
                 · rw [e1, hF] at q
                   by_cases y : O + kSgm (kT1 (kDr (fun j => f (24 * s + j)) off) m k used (kDl (kDr (fun j => f (24 * s + j)) off) pre)) c = 0 ∧ 0 < kTn (kDr (fun j => f (24 * s + j)) off) m k (used ||| 2 ^ c) ((kDr (fun j => f (24 * s + j)) off) c)
                   · exact absurd ⟨by omega, by omega⟩ q
                   · rw [yn (by rw [kDl_app]; exact y) j]
                     exact (kv_si_a (by decide)).trans (zn (fun y2 => q ⟨y2.1, by omega⟩) j))
            · have hb := kb_tf (fun q => h5 ((kHas_ct (by omega)).mpr q))
              refine kv_lload dX12_tryOrders_123 rfl ?_
              refine kw_mabs_long dX12_tryOrders_125 lX12_352 rfl (by omega) ?_
              refine kv_iload_n dX12_tryOrders_128 rfl ?_
              refine kv_i2l dX12_tryOrders_129 ?_
              refine kv_lcmp dX12_tryOrders_130 ?_
              refine kv_if_gt dX12_tryOrders_131 161 (by decide) (fun h6 => ?_) (fun h6 => ?_)
              · have hF : (kT1 (kDr (fun j => f (24 * s + j)) off) m k used (kDl (kDr (fun j => f (24 * s + j)) off) pre)) c = 0 := if_neg (fun q => by rw [Bool.and_eq_true] at q; exact hDn h6 q.2)
                refine kv_iinc (ls2 := [_, _, _, _, _, _, _, _, _]) dX12_tryOrders_161 (nI (c + 1)) rfl (kv_inc1 c) rfl rfl rfl rfl ?_
                refine kv_goto dX12_tryOrders_164 56 (by decide) ?_
                first
                | exact KV.loc (ihc _ E z26 (by rw [e1, hF]; exact z22) (fun q => zy ⟨q.1, by have := q.2; rw [e1, hF] at this; exact this⟩) (fun q => zn (fun y => q ⟨y.1, by rw [e1, hF]; exact y.2⟩))) (ksS rfl (ksS rfl (ksS rfl (ksS rfl (ksS rfl (ksS rfl (ksS rfl (ks0 (ks0 ksN)))))))))
                | (refine KV.loc (ihc _ zE (fun j hj => (y26 j (by rw [List.length_append]; exact Nat.lt_succ_of_lt hj)).trans (congrArg nI (kGetD_l hj))) (by rw [e1, hF]; exact y22.trans (congrArg nI (by rw [kDl_app]; omega))) (fun q j hj => ?_) (fun q j => ?_)) (ksS rfl (ksS rfl (ksS rfl (ksS rfl (ksS rfl (ksS rfl (ksS rfl (ks0 (ks0 ksN)))))))))
                   · rw [e1, hF] at q
                     by_cases y : 0 < kSgm (kT1 (kDr (fun j => f (24 * s + j)) off) m k used (kDl (kDr (fun j => f (24 * s + j)) off) pre)) c
                     · rw [yn (fun y2 => by omega) j]
                       exact (kv_si_a (by decide)).trans (zy ⟨q.1, y⟩ j hj)
                     · have hT0 : 0 < kTn (kDr (fun j => f (24 * s + j)) off) m k (used ||| 2 ^ c) ((kDr (fun j => f (24 * s + j)) off) c) := by omega
                       have hfi : kFi (kT1 (kDr (fun j => f (24 * s + j)) off) m k used (kDl (kDr (fun j => f (24 * s + j)) off) pre)) m = c := kFi_is hc (by rw [hF]; exact hT0) (by omega)
                       rw [yy ⟨by omega, by rw [kDl_app]; exact hT0⟩ j hj, kDl_app, kFp_s _ _ _ _ _ hfi, List.append_assoc]
                       rfl
                   · rw [e1, hF] at q
                     by_cases y : O + kSgm (kT1 (kDr (fun j => f (24 * s + j)) off) m k used (kDl (kDr (fun j => f (24 * s + j)) off) pre)) c = 0 ∧ 0 < kTn (kDr (fun j => f (24 * s + j)) off) m k (used ||| 2 ^ c) ((kDr (fun j => f (24 * s + j)) off) c)
                     · exact absurd ⟨by omega, by omega⟩ q
                     · rw [yn (by rw [kDl_app]; exact y) j]
                       exact (kv_si_a (by decide)).trans (zn (fun y2 => q ⟨y2.1, by omega⟩) j))
              · have hF : (kT1 (kDr (fun j => f (24 * s + j)) off) m k used (kDl (kDr (fun j => f (24 * s + j)) off) pre)) c = kTn (kDr (fun j => f (24 * s + j)) off) m k (used ||| 2 ^ c) ((kDr (fun j => f (24 * s + j)) off) c) := if_pos (by rw [hb, hDy h6]; rfl)
                refine kv_aload_n dX12_tryOrders_134 rfl ?_
                refine kw_gR dX12_tryOrders_135 fX12_56 hv (by first | rfl | assumption) rfl rfl (by first | rfl | assumption) ?_
                refine kv_iload dX12_tryOrders_138 rfl ?_
                refine kv_iload dX12_tryOrders_140 rfl ?_
                refine kw_is dX12_tryOrders_142 hv (by first | rfl | assumption) (pre.length) rfl (by omega) rfl ?_
                have p26 : ∀ j, j < (pre ++ [c]).length → (kv_si z 426 pre.length (nI c)).2.1 426 j = nI ((pre ++ [c]).getD j 0) := fun j hj => by
                  rw [List.length_append] at hj
                  have hj : j < pre.length + 1 := hj
                  by_cases y : j = pre.length
                  · rw [y, kv_si_s, kGetD_r]
                  · rw [kv_si_n (by omega), kGetD_l (by omega)]; exact z26 j (by omega)
                have plt : ∀ j, j < (pre ++ [c]).length → (pre ++ [c]).getD j 0 < m := fun j hj => by
                  rw [List.length_append] at hj
                  have hj : j < pre.length + 1 := hj
                  by_cases y : j = pre.length
                  · rw [y, kGetD_r]; exact hc
                  · rw [kGetD_l (by omega)]; exact hlt j (by omega)
                refine kv_aload_n dX12_tryOrders_143 rfl ?_
                refine kv_iload_n dX12_tryOrders_144 rfl ?_
                refine kv_iload_n dX12_tryOrders_145 rfl ?_
                refine kv_iload_n dX12_tryOrders_146 rfl ?_
                refine kv_iload dX12_tryOrders_147 rfl ?_
                refine kv_iconst dX12_tryOrders_149 1 ki_1 ?_
                refine kv_iadd dX12_tryOrders_150 ?_
                refine kv_iload dX12_tryOrders_151 rfl ?_
                refine kv_iconst dX12_tryOrders_153 1 ki_1 ?_
                refine kv_iload dX12_tryOrders_154 rfl ?_
                refine kv_ishl dX12_tryOrders_156 ?_
                refine kv_ior dX12_tryOrders_157 ?_
                rw [show (nI pre.length + 1 : Int32) = nI (pre ++ [c]).length from (kn_add rfl (show (1 : Int32) = nI 1 from rfl)).trans (by rw [List.length_append]; rfl), show (nI used ||| (1 : Int32) <<< (nI c &&& 31)) = nI (used ||| 2 ^ c) from (congrArg (fun z => nI used ||| z) (kn_pow c (by omega))).trans (kn_or _ _)]
                refine kw_VQ [_, _, _, _, _] mX12_tryOrders dX12_tryOrders_158 lX12_355 wX12_tryOrders kC12 hv rfl (by first | rfl | assumption) rfl rfl rfl (hI (pre ++ [c]) (used ||| 2 ^ c) (O + kSgm (kT1 (kDr (fun j => f (24 * s + j)) off) m k used (kDl (kDr (fun j => f (24 * s + j)) off) pre)) c) _ (by rw [List.length_append]; show pre.length + 1 + k = m; omega) (Nat.or_lt_two_pow (n := 6) hus (Nat.pow_lt_pow_right (by decide) (by omega))) (E.si (Or.inl rfl)) p26 plt ((kv_si_a (by decide)).trans z22) (by rw [kDl_app, ← hF]; have e2 := kTn_s (kDr (fun j => f (24 * s + j)) off) m k used (kDl (kDr (fun j => f (24 * s + j)) off) pre); omega)) (by omega) (fun _ v1 q1 => ?_)
                obtain ⟨rfl, zE, y26, y22, yy, yn⟩ := q1
                have hv1 := zE.wd hu
                refine kv_iinc (ls2 := [_, _, _, _, _, _, _, _, _]) dX12_tryOrders_161 (nI (c + 1)) rfl (kv_inc1 c) rfl rfl rfl rfl ?_
                refine kv_goto dX12_tryOrders_164 56 (by decide) ?_
                first
                | exact KV.loc (ihc _ E z26 (by rw [e1, hF]; exact z22) (fun q => zy ⟨q.1, by have := q.2; rw [e1, hF] at this; exact this⟩) (fun q => zn (fun y => q ⟨y.1, by rw [e1, hF]; exact y.2⟩))) (ksS rfl (ksS rfl (ksS rfl (ksS rfl (ksS rfl (ksS rfl (ksS rfl (ks0 (ks0 ksN)))))))))
                | (refine KV.loc (ihc _ zE (fun j hj => (y26 j (by rw [List.length_append]; exact Nat.lt_succ_of_lt hj)).trans (congrArg nI (kGetD_l hj))) (by rw [e1, hF]; exact y22.trans (congrArg nI (by rw [kDl_app]; omega))) (fun q j hj => ?_) (fun q j => ?_)) (ksS rfl (ksS rfl (ksS rfl (ksS rfl (ksS rfl (ksS rfl (ksS rfl (ks0 (ks0 ksN)))))))))
                   · rw [e1, hF] at q
                     by_cases y : 0 < kSgm (kT1 (kDr (fun j => f (24 * s + j)) off) m k used (kDl (kDr (fun j => f (24 * s + j)) off) pre)) c
                     · rw [yn (fun y2 => by omega) j]
                       exact (kv_si_a (by decide)).trans (zy ⟨q.1, y⟩ j hj)
                     · have hT0 : 0 < kTn (kDr (fun j => f (24 * s + j)) off) m k (used ||| 2 ^ c) ((kDr (fun j => f (24 * s + j)) off) c) := by omega
                       have hfi : kFi (kT1 (kDr (fun j => f (24 * s + j)) off) m k used (kDl (kDr (fun j => f (24 * s + j)) off) pre)) m = c := kFi_is hc (by rw [hF]; exact hT0) (by omega)
                       rw [yy ⟨by omega, by rw [kDl_app]; exact hT0⟩ j hj, kDl_app, kFp_s _ _ _ _ _ hfi, List.append_assoc]
                       rfl
                   · rw [e1, hF] at q
                     by_cases y : O + kSgm (kT1 (kDr (fun j => f (24 * s + j)) off) m k used (kDl (kDr (fun j => f (24 * s + j)) off) pre)) c = 0 ∧ 0 < kTn (kDr (fun j => f (24 * s + j)) off) m k (used ||| 2 ^ c) ((kDr (fun j => f (24 * s + j)) off) c)
                     · exact absurd ⟨by omega, by omega⟩ q
                     · rw [yn (by rw [kDl_app]; exact y) j]
                       exact (kv_si_a (by decide)).trans (zn (fun y2 => q ⟨y2.1, by omega⟩) j))
        · obtain ⟨pl, epl⟩ : ∃ pl, pl = pre.getD (pre.length - 1) 0 := ⟨_, rfl⟩
          have hpl : pl < m := by rw [epl]; exact hlt _ (by omega)
          have hr26 : z.2.1 426 (pre.length - 1) = nI pl := by rw [epl]; exact z26 _ (by omega)
          have hDe : kDl (kDr (fun j => f (24 * s + j)) off) pre c = decide (¬ 0 < lg_cmp (if 0 < ((f (24 * s + 2 * pl)).toInt64 - (f (24 * s + (2 * c + 1))).toInt64) then ((f (24 * s + 2 * pl)).toInt64 - (f (24 * s + (2 * c + 1))).toInt64) else -((f (24 * s + 2 * pl)).toInt64 - (f (24 * s + (2 * c + 1))).toInt64)) off.toInt64) := by
            unfold kDl
            rw [if_neg hp, ← epl]
            rfl
          have hDy : ¬ 0 < lg_cmp (if 0 < ((f (24 * s + 2 * pl)).toInt64 - (f (24 * s + (2 * c + 1))).toInt64) then ((f (24 * s + 2 * pl)).toInt64 - (f (24 * s + (2 * c + 1))).toInt64) else -((f (24 * s + 2 * pl)).toInt64 - (f (24 * s + (2 * c + 1))).toInt64)) off.toInt64 → kDl (kDr (fun j => f (24 * s + j)) off) pre c = true := fun q => by rw [hDe]; exact decide_eq_true q
          have hDn : 0 < lg_cmp (if 0 < ((f (24 * s + 2 * pl)).toInt64 - (f (24 * s + (2 * c + 1))).toInt64) then ((f (24 * s + 2 * pl)).toInt64 - (f (24 * s + (2 * c + 1))).toInt64) else -((f (24 * s + 2 * pl)).toInt64 - (f (24 * s + (2 * c + 1))).toInt64)) off.toInt64 → ¬ kDl (kDr (fun j => f (24 * s + j)) off) pre c = true := fun q y => by rw [hDe] at y; exact (of_decide_eq_true y) q
          refine kv_iload dX12_tryOrders_62 rfl ?_
          refine kv_if_ne dX12_tryOrders_64 71 (by decide) (fun h7 => ?_) (fun h7 => ?_)
          · refine kv_aload_n dX12_tryOrders_71 rfl ?_
            refine kw_gR dX12_tryOrders_72 fX12_71 hv (by first | rfl | assumption) rfl rfl (by first | rfl | assumption) ?_
            refine kv_bipush dX12_tryOrders_75 24 kb_24 ?_
            refine kv_iload_n dX12_tryOrders_77 rfl ?_
            refine kv_imul dX12_tryOrders_78 ?_
            refine kv_iconst dX12_tryOrders_79 2 ki_2 ?_
            refine kv_aload_n dX12_tryOrders_80 rfl ?_
            refine kw_gR dX12_tryOrders_81 fX12_56 hv (by first | rfl | assumption) rfl rfl (by first | rfl | assumption) ?_
            refine kv_iload dX12_tryOrders_84 rfl ?_
            refine kv_iconst dX12_tryOrders_86 1 ki_1 ?_
            refine kv_isub dX12_tryOrders_87 ?_
            refine kw_il dX12_tryOrders_88 hv (by first | rfl | assumption) (pre.length - 1) (kn_sub rfl (show (1 : Int32) = nI 1 from rfl) (by omega)) (by omega) rfl ?_
            rw [hr26]
            refine kv_imul dX12_tryOrders_89 ?_
            refine kv_iadd dX12_tryOrders_90 ?_
            refine kw_il dX12_tryOrders_91 hv (by first | rfl | assumption) (24 * s + 2 * pl) (kn_add (kn_mul (show (24 : Int32) = nI 24 from rfl) rfl) (kn_mul (show (2 : Int32) = nI 2 from rfl) rfl)) (by omega) rfl ?_
            rw [e31]
            refine kv_i2l dX12_tryOrders_92 ?_
            refine kv_aload_n dX12_tryOrders_93 rfl ?_
            refine kw_gR dX12_tryOrders_94 fX12_71 hv (by first | rfl | assumption) rfl rfl (by first | rfl | assumption) ?_
            refine kv_bipush dX12_tryOrders_97 24 kb_24 ?_
            refine kv_iload_n dX12_tryOrders_99 rfl ?_
            refine kv_imul dX12_tryOrders_100 ?_
            refine kv_iconst dX12_tryOrders_101 2 ki_2 ?_
            refine kv_iload dX12_tryOrders_102 rfl ?_
            refine kv_imul dX12_tryOrders_104 ?_
            refine kv_iadd dX12_tryOrders_105 ?_
            refine kv_iconst dX12_tryOrders_106 1 ki_1 ?_
            refine kv_iadd dX12_tryOrders_107 ?_
            refine kw_il dX12_tryOrders_108 hv (by first | rfl | assumption) (24 * s + (2 * c + 1)) ((kn_add (kn_add (kn_mul (show (24 : Int32) = nI 24 from rfl) rfl) (kn_mul (show (2 : Int32) = nI 2 from rfl) rfl)) (show (1 : Int32) = nI 1 from rfl)).trans (congrArg nI (by omega))) (by omega) rfl ?_
            rw [e31]
            refine kv_i2l dX12_tryOrders_109 ?_
            refine kv_lsub dX12_tryOrders_110 ?_
            refine kv_lstore (ls2 := [_, _, _, _, _, _, _, _, _]) dX12_tryOrders_111 rfl rfl rfl rfl ?_
            refine kv_iload dX12_tryOrders_113 rfl ?_
            refine kv_iload dX12_tryOrders_115 rfl ?_
            refine kw_Si [_, _] mX12_has dX12_tryOrders_117 lX12_128 wX12_has rfl rfl rfl (qX12_has (by exact hv) _ _) (by omega) ?_
            refine kw_bne dX12_tryOrders_120 161 (by decide) (fun h8 => ?_) (fun h8 => ?_)
            · have hb := kb_tb ((kHas_ct (by omega)).mp h8)
              have hF : (kT1 (kDr (fun j => f (24 * s + j)) off) m k used (kDl (kDr (fun j => f (24 * s + j)) off) pre)) c = 0 := if_neg (by rw [hb]; exact Bool.false_ne_true)
              refine kv_iinc (ls2 := [_, _, _, _, _, _, _, _, _]) dX12_tryOrders_161 (nI (c + 1)) rfl (kv_inc1 c) rfl rfl rfl rfl ?_
              refine kv_goto dX12_tryOrders_164 56 (by decide) ?_
              first
              | exact KV.loc (ihc _ E z26 (by rw [e1, hF]; exact z22) (fun q => zy ⟨q.1, by have := q.2; rw [e1, hF] at this; exact this⟩) (fun q => zn (fun y => q ⟨y.1, by rw [e1, hF]; exact y.2⟩))) (ksS rfl (ksS rfl (ksS rfl (ksS rfl (ksS rfl (ksS rfl (ksS rfl (ks0 (ks0 ksN)))))))))
              | (refine KV.loc (ihc _ zE (fun j hj => (y26 j (by rw [List.length_append]; exact Nat.lt_succ_of_lt hj)).trans (congrArg nI (kGetD_l hj))) (by rw [e1, hF]; exact y22.trans (congrArg nI (by rw [kDl_app]; omega))) (fun q j hj => ?_) (fun q j => ?_)) (ksS rfl (ksS rfl (ksS rfl (ksS rfl (ksS rfl (ksS rfl (ksS rfl (ks0 (ks0 ksN)))))))))
                 · rw [e1, hF] at q
                   by_cases y : 0 < kSgm (kT1 (kDr (fun j => f (24 * s + j)) off) m k used (kDl (kDr (fun j => f (24 * s + j)) off) pre)) c
                   · rw [yn (fun y2 => by omega) j]
                     exact (kv_si_a (by decide)).trans (zy ⟨q.1, y⟩ j hj)
                   · have hT0 : 0 < kTn (kDr (fun j => f (24 * s + j)) off) m k (used ||| 2 ^ c) ((kDr (fun j => f (24 * s + j)) off) c) := by omega
                     have hfi : kFi (kT1 (kDr (fun j => f (24 * s + j)) off) m k used (kDl (kDr (fun j => f (24 * s + j)) off) pre)) m = c := kFi_is hc (by rw [hF]; exact hT0) (by omega)
                     rw [yy ⟨by omega, by rw [kDl_app]; exact hT0⟩ j hj, kDl_app, kFp_s _ _ _ _ _ hfi, List.append_assoc]
                     rfl
                 · rw [e1, hF] at q
                   by_cases y : O + kSgm (kT1 (kDr (fun j => f (24 * s + j)) off) m k used (kDl (kDr (fun j => f (24 * s + j)) off) pre)) c = 0 ∧ 0 < kTn (kDr (fun j => f (24 * s + j)) off) m k (used ||| 2 ^ c) ((kDr (fun j => f (24 * s + j)) off) c)
                   · exact absurd ⟨by omega, by omega⟩ q
                   · rw [yn (by rw [kDl_app]; exact y) j]
                     exact (kv_si_a (by decide)).trans (zn (fun y2 => q ⟨y2.1, by omega⟩) j))
            · have hb := kb_tf (fun q => h8 ((kHas_ct (by omega)).mpr q))
              refine kv_lload dX12_tryOrders_123 rfl ?_
              refine kw_mabs_long dX12_tryOrders_125 lX12_352 rfl (by omega) ?_
              refine kv_iload_n dX12_tryOrders_128 rfl ?_
              refine kv_i2l dX12_tryOrders_129 ?_
              refine kv_lcmp dX12_tryOrders_130 ?_
              refine kv_if_gt dX12_tryOrders_131 161 (by decide) (fun h9 => ?_) (fun h9 => ?_)
              · have hF : (kT1 (kDr (fun j => f (24 * s + j)) off) m k used (kDl (kDr (fun j => f (24 * s + j)) off) pre)) c = 0 := if_neg (fun q => by rw [Bool.and_eq_true] at q; exact hDn h9 q.2)
                refine kv_iinc (ls2 := [_, _, _, _, _, _, _, _, _]) dX12_tryOrders_161 (nI (c + 1)) rfl (kv_inc1 c) rfl rfl rfl rfl ?_
                refine kv_goto dX12_tryOrders_164 56 (by decide) ?_
                first
                | exact KV.loc (ihc _ E z26 (by rw [e1, hF]; exact z22) (fun q => zy ⟨q.1, by have := q.2; rw [e1, hF] at this; exact this⟩) (fun q => zn (fun y => q ⟨y.1, by rw [e1, hF]; exact y.2⟩))) (ksS rfl (ksS rfl (ksS rfl (ksS rfl (ksS rfl (ksS rfl (ksS rfl (ks0 (ks0 ksN)))))))))
                | (refine KV.loc (ihc _ zE (fun j hj => (y26 j (by rw [List.length_append]; exact Nat.lt_succ_of_lt hj)).trans (congrArg nI (kGetD_l hj))) (by rw [e1, hF]; exact y22.trans (congrArg nI (by rw [kDl_app]; omega))) (fun q j hj => ?_) (fun q j => ?_)) (ksS rfl (ksS rfl (ksS rfl (ksS rfl (ksS rfl (ksS rfl (ksS rfl (ks0 (ks0 ksN)))))))))
                   · rw [e1, hF] at q
                     by_cases y : 0 < kSgm (kT1 (kDr (fun j => f (24 * s + j)) off) m k used (kDl (kDr (fun j => f (24 * s + j)) off) pre)) c
                     · rw [yn (fun y2 => by omega) j]
                       exact (kv_si_a (by decide)).trans (zy ⟨q.1, y⟩ j hj)
                     · have hT0 : 0 < kTn (kDr (fun j => f (24 * s + j)) off) m k (used ||| 2 ^ c) ((kDr (fun j => f (24 * s + j)) off) c) := by omega
                       have hfi : kFi (kT1 (kDr (fun j => f (24 * s + j)) off) m k used (kDl (kDr (fun j => f (24 * s + j)) off) pre)) m = c := kFi_is hc (by rw [hF]; exact hT0) (by omega)
                       rw [yy ⟨by omega, by rw [kDl_app]; exact hT0⟩ j hj, kDl_app, kFp_s _ _ _ _ _ hfi, List.append_assoc]
                       rfl
                   · rw [e1, hF] at q
                     by_cases y : O + kSgm (kT1 (kDr (fun j => f (24 * s + j)) off) m k used (kDl (kDr (fun j => f (24 * s + j)) off) pre)) c = 0 ∧ 0 < kTn (kDr (fun j => f (24 * s + j)) off) m k (used ||| 2 ^ c) ((kDr (fun j => f (24 * s + j)) off) c)
                     · exact absurd ⟨by omega, by omega⟩ q
                     · rw [yn (by rw [kDl_app]; exact y) j]
                       exact (kv_si_a (by decide)).trans (zn (fun y2 => q ⟨y2.1, by omega⟩) j))
              · have hF : (kT1 (kDr (fun j => f (24 * s + j)) off) m k used (kDl (kDr (fun j => f (24 * s + j)) off) pre)) c = kTn (kDr (fun j => f (24 * s + j)) off) m k (used ||| 2 ^ c) ((kDr (fun j => f (24 * s + j)) off) c) := if_pos (by rw [hb, hDy h9]; rfl)
                refine kv_aload_n dX12_tryOrders_134 rfl ?_
                refine kw_gR dX12_tryOrders_135 fX12_56 hv (by first | rfl | assumption) rfl rfl (by first | rfl | assumption) ?_
                refine kv_iload dX12_tryOrders_138 rfl ?_
                refine kv_iload dX12_tryOrders_140 rfl ?_
                refine kw_is dX12_tryOrders_142 hv (by first | rfl | assumption) (pre.length) rfl (by omega) rfl ?_
                have p26 : ∀ j, j < (pre ++ [c]).length → (kv_si z 426 pre.length (nI c)).2.1 426 j = nI ((pre ++ [c]).getD j 0) := fun j hj => by
                  rw [List.length_append] at hj
                  have hj : j < pre.length + 1 := hj
                  by_cases y : j = pre.length
                  · rw [y, kv_si_s, kGetD_r]
                  · rw [kv_si_n (by omega), kGetD_l (by omega)]; exact z26 j (by omega)
                have plt : ∀ j, j < (pre ++ [c]).length → (pre ++ [c]).getD j 0 < m := fun j hj => by
                  rw [List.length_append] at hj
                  have hj : j < pre.length + 1 := hj
                  by_cases y : j = pre.length
                  · rw [y, kGetD_r]; exact hc
                  · rw [kGetD_l (by omega)]; exact hlt j (by omega)
                refine kv_aload_n dX12_tryOrders_143 rfl ?_
                refine kv_iload_n dX12_tryOrders_144 rfl ?_
                refine kv_iload_n dX12_tryOrders_145 rfl ?_
                refine kv_iload_n dX12_tryOrders_146 rfl ?_
                refine kv_iload dX12_tryOrders_147 rfl ?_
                refine kv_iconst dX12_tryOrders_149 1 ki_1 ?_
                refine kv_iadd dX12_tryOrders_150 ?_
                refine kv_iload dX12_tryOrders_151 rfl ?_
                refine kv_iconst dX12_tryOrders_153 1 ki_1 ?_
                refine kv_iload dX12_tryOrders_154 rfl ?_
                refine kv_ishl dX12_tryOrders_156 ?_
                refine kv_ior dX12_tryOrders_157 ?_
                rw [show (nI pre.length + 1 : Int32) = nI (pre ++ [c]).length from (kn_add rfl (show (1 : Int32) = nI 1 from rfl)).trans (by rw [List.length_append]; rfl), show (nI used ||| (1 : Int32) <<< (nI c &&& 31)) = nI (used ||| 2 ^ c) from (congrArg (fun z => nI used ||| z) (kn_pow c (by omega))).trans (kn_or _ _)]
                refine kw_VQ [_, _, _, _, _] mX12_tryOrders dX12_tryOrders_158 lX12_355 wX12_tryOrders kC12 hv rfl (by first | rfl | assumption) rfl rfl rfl (hI (pre ++ [c]) (used ||| 2 ^ c) (O + kSgm (kT1 (kDr (fun j => f (24 * s + j)) off) m k used (kDl (kDr (fun j => f (24 * s + j)) off) pre)) c) _ (by rw [List.length_append]; show pre.length + 1 + k = m; omega) (Nat.or_lt_two_pow (n := 6) hus (Nat.pow_lt_pow_right (by decide) (by omega))) (E.si (Or.inl rfl)) p26 plt ((kv_si_a (by decide)).trans z22) (by rw [kDl_app, ← hF]; have e2 := kTn_s (kDr (fun j => f (24 * s + j)) off) m k used (kDl (kDr (fun j => f (24 * s + j)) off) pre); omega)) (by omega) (fun _ v1 q1 => ?_)
                obtain ⟨rfl, zE, y26, y22, yy, yn⟩ := q1
                have hv1 := zE.wd hu
                refine kv_iinc (ls2 := [_, _, _, _, _, _, _, _, _]) dX12_tryOrders_161 (nI (c + 1)) rfl (kv_inc1 c) rfl rfl rfl rfl ?_
                refine kv_goto dX12_tryOrders_164 56 (by decide) ?_
                first
                | exact KV.loc (ihc _ E z26 (by rw [e1, hF]; exact z22) (fun q => zy ⟨q.1, by have := q.2; rw [e1, hF] at this; exact this⟩) (fun q => zn (fun y => q ⟨y.1, by rw [e1, hF]; exact y.2⟩))) (ksS rfl (ksS rfl (ksS rfl (ksS rfl (ksS rfl (ksS rfl (ksS rfl (ks0 (ks0 ksN)))))))))
                | (refine KV.loc (ihc _ zE (fun j hj => (y26 j (by rw [List.length_append]; exact Nat.lt_succ_of_lt hj)).trans (congrArg nI (kGetD_l hj))) (by rw [e1, hF]; exact y22.trans (congrArg nI (by rw [kDl_app]; omega))) (fun q j hj => ?_) (fun q j => ?_)) (ksS rfl (ksS rfl (ksS rfl (ksS rfl (ksS rfl (ksS rfl (ksS rfl (ks0 (ks0 ksN)))))))))
                   · rw [e1, hF] at q
                     by_cases y : 0 < kSgm (kT1 (kDr (fun j => f (24 * s + j)) off) m k used (kDl (kDr (fun j => f (24 * s + j)) off) pre)) c
                     · rw [yn (fun y2 => by omega) j]
                       exact (kv_si_a (by decide)).trans (zy ⟨q.1, y⟩ j hj)
                     · have hT0 : 0 < kTn (kDr (fun j => f (24 * s + j)) off) m k (used ||| 2 ^ c) ((kDr (fun j => f (24 * s + j)) off) c) := by omega
                       have hfi : kFi (kT1 (kDr (fun j => f (24 * s + j)) off) m k used (kDl (kDr (fun j => f (24 * s + j)) off) pre)) m = c := kFi_is hc (by rw [hF]; exact hT0) (by omega)
                       rw [yy ⟨by omega, by rw [kDl_app]; exact hT0⟩ j hj, kDl_app, kFp_s _ _ _ _ _ hfi, List.append_assoc]
                       rfl
                   · rw [e1, hF] at q
                     by_cases y : O + kSgm (kT1 (kDr (fun j => f (24 * s + j)) off) m k used (kDl (kDr (fun j => f (24 * s + j)) off) pre)) c = 0 ∧ 0 < kTn (kDr (fun j => f (24 * s + j)) off) m k (used ||| 2 ^ c) ((kDr (fun j => f (24 * s + j)) off) c)
                     · exact absurd ⟨by omega, by omega⟩ q
                     · rw [yn (by rw [kDl_app]; exact y) j]
                       exact (kv_si_a (by decide)).trans (zn (fun y2 => q ⟨y2.1, by omega⟩) j))
          · exact absurd ((nI_eq (b := 0) (by omega) (by omega)).mp h7) hp
  · exact absurd ((nI_eq (by omega) (by omega)).mp h1) (by omega)

theorem qX12_tryOrders {w : KW} {l : Launch} {u : KMem} (hu : kWd u) {f : Nat → Int32} (ef : u.2.1 431 = f) (s : Nat) (hs : s < 4) (oo : Nat) (ho : oo ≤ 999) {off : Int32} (eo : off = nI oo) {m : Nat} (hm : m ≤ 6) (hm1 : 1 ≤ m) : ∀ k, ∀ (pre : List Nat) (used O : Nat) (v : KMem), pre.length + k = m → used < 64 → kEq kSO u v → (∀ j, j < pre.length → v.2.1 426 j = nI (pre.getD j 0)) → (∀ j, j < pre.length → pre.getD j 0 < m) → v.2.1 413 22 = nI O → O + kTn (kDr (fun j => f (24 * s + j)) off) m k used (kDl (kDr (fun j => f (24 * s + j)) off) pre) ≤ 1000000 → KC w l mX12_tryOrders (k + 2) 0 0 [.ref 413, .int (nI s), .int off, .int (nI m), .int (nI pre.length), .int (nI used)] v (kTryP u (kDr (fun j => f (24 * s + j)) off) m k used O pre v)
  | 0 => qX12_tryOrders_0 hu ef s hs oo ho eo hm hm1
  | k + 1 => qX12_tryOrders_s hu ef s hs oo ho eo hm hm1 (qX12_tryOrders hu ef s hs oo ho eo hm hm1 k)
