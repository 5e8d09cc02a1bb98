/-! POSITIONS, and what is held out -/
theorem kv_sg_n {u : KMem} {a k b j : Nat} {x : Int64} (h : ¬ (b = a ∧ j = k)) : (kv_sg u a k x).2.2.1 b j = u.2.2.1 b j := by
  show (if b = a then (if j = k then x else u.2.2.1 b j) else u.2.2.1 b j) = _
  by_cases q : b = a
  · rw [if_pos q, if_neg (fun z => h ⟨q, z⟩)]
  · rw [if_neg q]
theorem kv_sg_s (u : KMem) (a k : Nat) (x : Int64) : (kv_sg u a k x).2.2.1 a k = x := by
  show (if a = a then (if k = k then x else u.2.2.1 a k) else u.2.2.1 a k) = _
  rw [if_pos rfl, if_pos rfl]
/-- a number of a row of longs becomes x -/
def kUpL (f : Nat → Int64) (k : Nat) (x : Int64) : Nat → Int64 := fun j => if j = k then x else f j
theorem kUpL_s (f : Nat → Int64) (k : Nat) (x : Int64) : kUpL f k x k = x := if_pos rfl
theorem kUpL_n {f : Nat → Int64} {k j : Nat} {x : Int64} (h : ¬ j = k) : kUpL f k x j = f j := if_neg h
theorem kv_sg_up {v : KMem} {b n k : Nat} {x : Int64} {f : Nat → Int64} (h : ∀ j, j < n → v.2.2.1 b j = f j) : ∀ j, j < n → (kv_sg v b k x).2.2.1 b j = kUpL f k x j := by
  intro j hj
  by_cases q : j = k
  · subst q; rw [kv_sg_s, kUpL_s]
  · rw [kv_sg_n (fun z => q z.2), kUpL_n q]; exact h j hj
def kFlL (u : KMem) (b n : Nat) (x : Int64) : KMem := (u.1, u.2.1, (fun a k => if a = b ∧ k < n then x else u.2.2.1 a k), u.2.2.2)
theorem kFlL_0 (u : KMem) (b : Nat) (x : Int64) : kFlL u b 0 x = u := by
  unfold kFlL
  rw [show (fun a k => if a = b ∧ k < 0 then x else u.2.2.1 a k) = u.2.2.1 from funext fun a => funext fun k => if_neg (fun q => absurd q.2 (Nat.not_lt_zero k))]
theorem kFlL_n {u : KMem} {b n a k : Nat} {x : Int64} (h : ¬ (a = b ∧ k < n)) : (kFlL u b n x).2.2.1 a k = u.2.2.1 a k := if_neg h
theorem kFlL_s {u : KMem} {b n k : Nat} {x : Int64} (h : k < n) : (kFlL u b n x).2.2.1 b k = x := if_pos ⟨rfl, h⟩
theorem kFlL_step (u : KMem) (b n : Nat) (x : Int64) : kv_sg (kFlL u b n x) b n x = kFlL u b (n + 1) x := by
  have e : (kv_sg (kFlL u b n x) b n x).2.2.1 = (kFlL u b (n + 1) x).2.2.1 := by
    funext a k
    by_cases h : a = b ∧ k = n
    · obtain ⟨rfl, rfl⟩ := h
      rw [kv_sg_s, kFlL_s (by omega)]
    · rw [kv_sg_n h]
      by_cases h2 : a = b ∧ k < n
      · rw [show a = b from h2.1, kFlL_s h2.2, kFlL_s (by omega)]
      · rw [kFlL_n h2, kFlL_n (by omega)]
  show (u.1, u.2.1, (kv_sg (kFlL u b n x) b n x).2.2.1, u.2.2.2) = _
  rw [e]
  rfl
theorem kFlL_wd {u : KMem} {b n : Nat} {x : Int64} (h : kWd u) (hb : ¬ b = 392 ∧ ¬ b = 422) : kWd (kFlL u b n x) := ⟨h.1, h.2.1, (kFlL_n (by omega)).trans h.2.2.1, (kFlL_n (by omega)).trans h.2.2.2⟩
/-- the insurer of a side of an entry -/
def kIns (g : Nat → Int32) (e s : Nat) : Nat := kN g (40 + 8 * kCarOf g (kN g (1128 + 5 * e + 0)) s + 0)
theorem kGI.ins {g : Nat → Int32} (hg : kGI g) {e : Nat} (he : e < kN g 4) {s : Nat} (hs : s < 2) : g (328 + 7 * kN g (1128 + 5 * e + 0) + s) = nI (kCarOf g (kN g (1128 + 5 * e + 0)) s) ∧ kCarOf g (kN g (1128 + 5 * e + 0)) s < kN g 0 ∧ g (40 + 8 * kCarOf g (kN g (1128 + 5 * e + 0)) s + 0) = nI (kIns g e s) ∧ kIns g e s < 11 := by
  have hE := hg.ent he
  have hC := hg.carOf hE.2.1 hs
  have hI := (hg.2.2.2.1 _ hC.2).1.n (by omega)
  exact ⟨hC.1, hC.2, hI.1, Nat.lt_of_le_of_lt hI.2 (by decide)⟩
/-- it counts in the month m -/
def kIn (g : Nat → Int32) (m : Int32) (e : Nat) : Prop := g (1128 + 5 * e + 3) = m ∧ nI (kFst g e) = nI e
noncomputable def kPosS (g : Nat → Int32) (e : Nat) (f : Nat → Int64) : Nat → Int64 := kUpL (kUpL f (kIns g e (kN g (1128 + 5 * e + 1))) (f (kIns g e (kN g (1128 + 5 * e + 1))) + (g (1128 + 5 * e + 2)).toInt64)) (kIns g e (1 - kN g (1128 + 5 * e + 1))) (kUpL f (kIns g e (kN g (1128 + 5 * e + 1))) (f (kIns g e (kN g (1128 + 5 * e + 1))) + (g (1128 + 5 * e + 2)).toInt64) (kIns g e (1 - kN g (1128 + 5 * e + 1))) - (g (1128 + 5 * e + 2)).toInt64)
noncomputable def kPosA (g : Nat → Int32) (m : Int32) : Nat → Nat → Int64
  | 0 => fun _ => 0
  | e + 1 => @ite _ (kIn g m e ∧ ¬ kDisp g e) (Classical.propDecidable _) (kPosS g e (kPosA g m e)) (kPosA g m e)
noncomputable def kHeldA (g : Nat → Int32) (m : Int32) : Nat → Int32
  | 0 => 0
  | e + 1 => @ite _ (kIn g m e ∧ kDisp g e) (Classical.propDecidable _) (kHeldA g m e + g (1128 + 5 * e + 2)) (kHeldA g m e)
theorem kPosA_y {g : Nat → Int32} {m : Int32} {e : Nat} (h : kIn g m e) (hd : ¬ kDisp g e) : kPosA g m (e + 1) = kPosS g e (kPosA g m e) := if_pos ⟨h, hd⟩
theorem kPosA_n {g : Nat → Int32} {m : Int32} {e : Nat} (h : ¬ (kIn g m e ∧ ¬ kDisp g e)) : kPosA g m (e + 1) = kPosA g m e := if_neg h
theorem kHeldA_y {g : Nat → Int32} {m : Int32} {e : Nat} (h : kIn g m e) (hd : kDisp g e) : kHeldA g m (e + 1) = kHeldA g m e + g (1128 + 5 * e + 2) := if_pos ⟨h, hd⟩
theorem kHeldA_n {g : Nat → Int32} {m : Int32} {e : Nat} (h : ¬ (kIn g m e ∧ kDisp g e)) : kHeldA g m (e + 1) = kHeldA g m e := if_neg h
/-- where the class's Ledger works when it opens a month; where the model works for positions -/
def kSL (a k : Nat) : Prop := (385 ≤ a ∧ a ≤ 387) ∨ (a = 389 ∧ k = 3) ∨ a = 390
def kSQ (a k : Nat) : Prop := a = 420 ∨ a = 421
theorem kSJ_L {u v : KMem} (h : kEq kSJ u v) : kEq kSL u v := h.wk (fun a k q => by unfold kSJ at q; unfold kSL; omega)
theorem kSP_Q {u v : KMem} (h : kEq kSP u v) : kEq kSQ u v := h.wk (fun a k q => by unfold kSP at q; unfold kSQ; omega)
theorem kRS.eqL {g : Nat → Int32} {u v : KMem} (h : kRS 1 g u) (hg : kGI g) (he : kEq kSL u v) : kRS 1 g v := h.of (fun a k h1 h2 => he.2.2.1 a k (by unfold kSL; omega)) hg
theorem kSL_X {u v : KMem} (h : kEq kSL u v) : kEq kSX u v := h.wk (fun a k q => Or.inl (by unfold kSL at q; omega))
theorem kSQ_M {u v : KMem} (h : kEq kSQ u v) : kEq kSM u v := h.wk (fun a k q => Or.inl (by unfold kSQ at q; omega))
theorem kSQ_now (k : Nat) : ¬ kSQ 414 k := by unfold kSQ; omega
theorem kEq.flL {A : Nat → Nat → Prop} {u v : KMem} {b n : Nat} {x : Int64} (h : kEq A u v) (ha : ∀ k, A b k) (hn : ¬ b = 392 ∧ ¬ b = 422 := by omega) : kEq A u (kFlL v b n x) := ⟨h.1, h.2.1, h.2.2.1, fun c k q => by
  rw [kFlL_n (fun z => q.elim (fun y => y (by rw [z.1]; exact ha k)) (by omega))]
  exact h.2.2.2 c k q⟩
theorem kRS.sg {s : Nat} {g : Nat → Int32} {u : KMem} (h : kRS s g u) {a k : Nat} {x : Int64} : kRS s g (kv_sg u a k x) := h
set_option maxRecDepth 20000 in
set_option maxHeartbeats 4000000 in
theorem qJ7_fill_d0a16 {w : KW} {l : Launch} {u : KMem} (hu : kWd u) {b n : Nat} (hs : kv_sh b = (21, n)) (hn : n < 1000) (h0 : Nat.blt 0 n = true) (hb : ¬ b = 392 ∧ ¬ b = 422) (x : Int64) : KC w l mJ7_fill_d0a16 0 0 0 [.ref b, .long x] u (kq none (kFlL u b n x)) := by
  refine KC.of (ls := [_, _, _, _, _]) rfl rfl (Nat.le_of_ble_eq_true rfl) ?_
  refine kv_iconst dJ7_fill_d0a16_0 0 ki_0 ?_
  refine kv_istore_n (ls2 := [_, _, _, _, _]) dJ7_fill_d0a16_1 rfl rfl rfl rfl ?_
  refine kv_aload_n dJ7_fill_d0a16_2 rfl ?_
  refine kw_len (t := 1) dJ7_fill_d0a16_3 hu hs rfl h0 ?_
  refine kv_istore (ls2 := [_, _, _, _, _]) dJ7_fill_d0a16_4 rfl rfl rfl rfl ?_
  refine Eq.subst (motive := fun z => KV w l mJ7_fill_d0a16 0 0 0 6 _ [] z _) (kFlL_0 u b x) ?_
  refine KV.loc (ls2 := [some (.ref b), some (.long x), none, some (.int (nI (0))), some (.int (nI n))]) ?_ (ksS rfl (ksS rfl (ks0 (ksS rfl (ksS rfl ksN)))))
  refine kn_loop (P := fun i => KV w l mJ7_fill_d0a16 0 0 0 6 [some (.ref b), some (.long x), none, some (.int (nI (i))), some (.int (nI n))] [] (kFlL u b (i) x) (kq none (kFlL u b n x))) (n) ?_ (fun i hi ih => ?_)
  · refine kv_iload_n dJ7_fill_d0a16_6 rfl ?_
    refine kv_iload dJ7_fill_d0a16_7 rfl ?_
    refine kv_icmp_ge dJ7_fill_d0a16_9 22 (by decide) (fun h1 => ?_) (fun h1 => ?_)
    · exact kv_vret dJ7_fill_d0a16_22 rfl ⟨rfl, rfl⟩
    · exact absurd h1 (fun q => q (Int32.le_refl _))
  · refine kv_iload_n dJ7_fill_d0a16_6 rfl ?_
    refine kv_iload dJ7_fill_d0a16_7 rfl ?_
    refine kv_icmp_ge dJ7_fill_d0a16_9 22 (by decide) (fun h2 => ?_) (fun h2 => ?_)
    · exact absurd h2 (kn_ge hi (by omega))
    · refine kv_aload_n dJ7_fill_d0a16_12 rfl ?_
      refine kv_iload_n dJ7_fill_d0a16_13 rfl ?_
      refine kv_lload_n dJ7_fill_d0a16_14 rfl ?_
      refine kw_ls dJ7_fill_d0a16_15 (kFlL_wd hu hb) hs i rfl hi (Nat.ble_eq_true_of_le (show n + 1 ≤ 2147483648 by omega)) ?_
      refine kv_iinc (ls2 := [_, _, _, _, _]) dJ7_fill_d0a16_16 (nI (i + 1)) rfl (kv_inc1 i) rfl rfl rfl rfl ?_
      refine kv_goto dJ7_fill_d0a16_19 6 (by decide) ?_
      rw [kFlL_step]
      exact KV.loc ih (ksS rfl (ksS rfl (ks0 (ksS rfl (ksS rfl ksN)))))

set_option maxRecDepth 20000 in
set_option maxHeartbeats 4000000 in
theorem qX4_open {w : KW} {l : Launch} {u : KMem} (hu : kWd u) {g : Nat → Int32} (hr : kRS 1 g u) (hg : kGI g) (m : Int32) : KC w l mX4_open 6 0 0 [.ref 389, .int m] u (fun r v => r = none ∧ kEq kSL u v ∧ (∀ k, k < 11 → v.2.2.1 390 k = kPosA g m (kN g 4) k) ∧ v.2.1 389 3 = kHeldA g m (kN g 4)) := by
  have hx20 := (hg.cnt (k := 2) rfl).2
  have hc30 := (hg.cnt (k := 0) rfl).2
  have hw := hg.cnt (k := 4) rfl
  refine KC.of (ls := [_, _, _, _, _]) rfl rfl (Nat.le_of_ble_eq_true rfl) ?_
  refine kv_aload_n dX4_open_0 rfl ?_
  refine kw_gR dX4_open_1 fX4_9 hu (by first | rfl | assumption) rfl rfl (by first | rfl | assumption) ?_
  refine kv_lconst dX4_open_4 0 kl_0 ?_
  refine kw_Sv [_, _] mJ7_fill_d0a16 dX4_open_5 lX4_33 wJ7_fill_d0a16 rfl rfl rfl (qJ7_fill_d0a16 (by exact hu) (n := 11) rfl (by omega) rfl (by omega) _) (by decide) ?_
  refine kv_aload_n dX4_open_8 rfl ?_
  refine kv_iconst dX4_open_9 0 ki_0 ?_
  refine kw_pI dX4_open_10 fX4_39 hu (by first | rfl | assumption) rfl rfl ?_
  refine kv_iconst dX4_open_13 0 ki_0 ?_
  refine kv_istore_n (ls2 := [_, _, _, _, _]) dX4_open_14 rfl rfl rfl rfl ?_
  refine KV.loc (ls2 := [some (.ref 389), some (.int m), some (.int (nI (0))), none, none]) ?_ (ksS rfl (ksS rfl (ksS rfl (ks0 (ks0 ksN)))))
  refine kn_loop (P := fun i => ∀ v : KMem, kEq kSL u v → (∀ k, k < 11 → v.2.2.1 390 k = kPosA g m i k) → v.2.1 389 3 = kHeldA g m i → KV w l mX4_open 6 0 0 15 [some (.ref 389), some (.int m), some (.int (nI i)), none, none] [] v (fun r v => r = none ∧ kEq kSL u v ∧ (∀ k, k < 11 → v.2.2.1 390 k = kPosA g m (kN g 4) k) ∧ v.2.1 389 3 = kHeldA g m (kN g 4))) (kN g 4) ?_ (fun i hi ih => ?_) _ ((kEq.rf.flL (fun k => Or.inr (Or.inr rfl))).si (Or.inr (Or.inl ⟨rfl, rfl⟩))) (fun k hk => kFlL_s hk) (kv_si_s _ _ _ _)
  · intro v E hP hH
    have hv := E.wd hu
    have hrv := hr.eqL hg E
    refine kv_iload_n dX4_open_15 rfl ?_
    refine kv_aload_n dX4_open_16 rfl ?_
    refine kw_gR dX4_open_17 fX4_25 hv (by first | rfl | assumption) rfl rfl (by first | rfl | assumption) ?_
    refine kw_gI dX4_open_20 fX4_43 hv (by first | rfl | assumption) rfl rfl ?_
    rw [hrv.n4, hw.1]
    refine kv_icmp_ge dX4_open_23 172 (by decide) (fun h1 => ?_) (fun h1 => ?_)
    · exact kv_vret dX4_open_172 rfl ⟨rfl, E, hP, hH⟩
    · exact absurd h1 (fun q => q (Int32.le_refl _))
  · intro v E hP hH
    have hv := E.wd hu
    have hrv := hr.eqL hg E
    have hE := hg.ent hi
    have h0 := hg.ins hi hE.2.2.2
    have h1 := hg.ins hi (s := 1 - kN g (1128 + 5 * i + 1)) (by omega)
    have ke := ks_entry i (by omega)
    have ke1 := ke.1
    have ke2 := ke.2
    have kx := ks_crash (kN g (1128 + 5 * i + 0)) (by omega)
    have kx1 := kx.1
    have kx2 := kx.2.1
    have kx4 := kx.2.2.2.1
    have kx6 := kx.2.2.2.2.2
    have kc0 := ks_car (kCarOf g (kN g (1128 + 5 * i + 0)) (kN g (1128 + 5 * i + 1))) (by omega)
    have kc01 := kc0.1
    have kc04 := kc0.2.2.2
    have kc1 := ks_car (kCarOf g (kN g (1128 + 5 * i + 0)) (1 - kN g (1128 + 5 * i + 1))) (by omega)
    have kc11 := kc1.1
    have kc14 := kc1.2.2.2
    refine kv_iload_n dX4_open_15 rfl ?_
    refine kv_aload_n dX4_open_16 rfl ?_
    refine kw_gR dX4_open_17 fX4_25 hv (by first | rfl | assumption) rfl rfl (by first | rfl | assumption) ?_
    refine kw_gI dX4_open_20 fX4_43 hv (by first | rfl | assumption) rfl rfl ?_
    rw [hrv.n4, hw.1]
    refine kv_icmp_ge dX4_open_23 172 (by decide) (fun h2 => ?_) (fun h2 => ?_)
    · exact absurd h2 (kn_ge hi (by omega))
    · refine kv_aload_n dX4_open_26 rfl ?_
      refine kw_gR dX4_open_27 fX4_25 hv (by first | rfl | assumption) rfl rfl (by first | rfl | assumption) ?_
      refine kw_gR dX4_open_30 fX4_48 hv (by first | rfl | assumption) rfl rfl (by first | rfl | assumption) ?_
      refine kv_iload_n dX4_open_33 rfl ?_
      refine kw_al (t := 3) (n := 40) dX4_open_34 hv rfl rfl (i) rfl (by omega) rfl (by first | rfl | assumption) ?_
      refine kv_astore_n (ls2 := [_, _, _, _, _]) dX4_open_35 rfl rfl rfl rfl ?_
      refine kv_aload_n dX4_open_36 rfl ?_
      refine kw_gI dX4_open_37 fX4_52 hv (by first | rfl | assumption) rfl rfl ?_
      rw [hrv.ent hi 3 (by omega)]
      refine kv_iload_n dX4_open_40 rfl ?_
      refine kv_icmp_ne dX4_open_41 166 (by decide) (fun h3 => ?_) (fun h3 => ?_)
      · have pe := kPosA_n (g := g) (m := m) (e := i) (fun q => h3 q.1.1)
        have qe := kHeldA_n (g := g) (m := m) (e := i) (fun q => h3 q.1.1)
        refine kv_iinc (ls2 := [_, _, _, _, _]) dX4_open_166 (nI (i + 1)) rfl (kv_inc1 i) rfl rfl rfl rfl ?_
        refine kv_goto dX4_open_169 15 (by decide) ?_
        first
        | exact KV.loc (ih _ E (by rw [pe]; exact hP) (by rw [qe]; exact hH)) (ksS rfl (ksS rfl (ksS rfl (ks0 (ks0 ksN)))))
        | exact KV.loc (ih _ (E1.si (Or.inr (Or.inl ⟨rfl, rfl⟩))) (by rw [pe]; exact hP1) (by rw [qe]; exact kv_si_s _ _ _ _)) (ksS rfl (ksS rfl (ksS rfl (ks0 (ks0 ksN)))))
        | exact KV.loc (ih _ ((E1.sg (Or.inr (Or.inr rfl))).sg (Or.inr (Or.inr rfl))) (by rw [pe]; exact kv_sg_up (kv_sg_up hP1)) (by rw [qe]; exact hH1)) (ksS rfl (ksS rfl (ksS rfl (ks0 (ks0 ksN)))))
      · have q1 := h3
        refine kv_aload_n dX4_open_44 rfl ?_
        refine kw_gI dX4_open_45 fX4_57 hv (by first | rfl | assumption) rfl rfl ?_
        rw [hrv.efst hi]
        refine kv_iload_n dX4_open_48 rfl ?_
        refine kv_icmp_eq dX4_open_49 55 (by decide) (fun h4 => ?_) (fun h4 => ?_)
        · have hI : kIn g m i := ⟨q1, h4⟩
          refine kv_aload_n dX4_open_55 rfl ?_
          refine kw_gR dX4_open_56 fX4_29 hv (by first | rfl | assumption) rfl rfl (by first | rfl | assumption) ?_
          refine kv_aload_n dX4_open_59 rfl ?_
          refine kw_VQ [_] mX3_disputed dX4_open_60 lX4_60 wX3_disputed kC3 hv rfl (by first | rfl | assumption) rfl rfl rfl (rX3_disputed hv hrv hg i hi) (by decide) (fun _ v1 q1 => ?_)
          obtain ⟨rfl, e0⟩ := q1
          have e1 := kSJ_L e0
          have hH1 : v1.2.1 389 3 = kHeldA g m i := (e0.2.2.1 389 3 (by unfold kSJ; omega)).trans hH
          have hP1 : ∀ k, k < 11 → v1.2.2.1 390 k = kPosA g m i k := fun k hk => (e0.2.2.2 390 k (by unfold kSJ; omega)).trans (hP k hk)
          have hr1 := hrv.eqJ hg e0
          have hu1 := e1.wd hv
          have E1 := E.tr e1
          refine kw_beq dX4_open_63 82 (by decide) (fun h5 => ?_) (fun h5 => ?_)
          · have pe := kPosA_y hI h5
            have qe := kHeldA_n (g := g) (m := m) (e := i) (fun q => h5 q.2)
            refine kv_aload_n dX4_open_82 rfl ?_
            refine kw_gR dX4_open_83 fX4_25 hu1 (by first | rfl | assumption) rfl rfl (by first | rfl | assumption) ?_
            refine kw_gR dX4_open_86 fX4_69 hu1 (by first | rfl | assumption) rfl rfl (by first | rfl | assumption) ?_
            refine kv_aload_n dX4_open_89 rfl ?_
            refine kw_gI dX4_open_90 fX4_73 hu1 (by first | rfl | assumption) rfl rfl ?_
            rw [hr1.ent hi 0 (by omega), hE.1]
            refine kw_al (t := 1) (n := 20) dX4_open_93 hu1 rfl rfl (kN g (1128 + 5 * i + 0)) rfl (by omega) rfl (by first | rfl | assumption) ?_
            refine kv_astore (ls2 := [_, _, _, _, _]) dX4_open_94 rfl rfl rfl rfl ?_
            refine kv_aload_n dX4_open_96 rfl ?_
            refine kw_gR dX4_open_97 fX4_9 hu1 (by first | rfl | assumption) rfl rfl (by first | rfl | assumption) ?_
            refine kv_aload_n dX4_open_100 rfl ?_
            refine kw_gR dX4_open_101 fX4_25 hu1 (by first | rfl | assumption) rfl rfl (by first | rfl | assumption) ?_
            refine kw_gR dX4_open_104 fX4_76 hu1 (by first | rfl | assumption) rfl rfl (by first | rfl | assumption) ?_
            refine kv_aload dX4_open_107 rfl ?_
            refine kw_gR dX4_open_109 fX4_80 hu1 (by first | rfl | assumption) rfl rfl (by first | rfl | assumption) ?_
            refine kv_aload_n dX4_open_112 rfl ?_
            refine kw_gI dX4_open_113 fX4_84 hu1 (by first | rfl | assumption) rfl rfl ?_
            rw [hr1.ent hi 1 (by omega), hE.2.2.1]
            refine kw_il dX4_open_116 hu1 (by first | rfl | assumption) (kN g (1128 + 5 * i + 1)) rfl (by omega) rfl ?_
            rw [hr1.cc hE.2.1 _ hE.2.2.2, h0.1]
            refine kw_al (t := 0) (n := 30) dX4_open_117 hu1 rfl rfl ((kCarOf g (kN g (1128 + 5 * i + 0)) (kN g (1128 + 5 * i + 1)))) rfl (by omega) rfl (by first | rfl | assumption) ?_
            refine kw_gI dX4_open_118 fX4_87 hu1 (by first | rfl | assumption) rfl rfl ?_
            rw [hr1.car h0.2.1 0 (by omega), h0.2.2.1]
            refine kv_dup2 dX4_open_121 rfl rfl ?_
            refine kw_ll dX4_open_122 hu1 (by first | rfl | assumption) (kIns g i (kN g (1128 + 5 * i + 1))) rfl h0.2.2.2 rfl ?_
            rw [hP1 _ h0.2.2.2]
            refine kv_aload_n dX4_open_123 rfl ?_
            refine kw_gI dX4_open_124 fX4_66 hu1 (by first | rfl | assumption) rfl rfl ?_
            rw [hr1.ent hi 2 (by omega)]
            refine kv_i2l dX4_open_127 ?_
            refine kv_ladd dX4_open_128 ?_
            refine kw_ls dX4_open_129 hu1 (by first | rfl | assumption) (kIns g i (kN g (1128 + 5 * i + 1))) rfl h0.2.2.2 rfl ?_
            refine kv_aload_n dX4_open_130 rfl ?_
            refine kw_gR dX4_open_131 fX4_9 hu1 (by first | rfl | assumption) rfl rfl (by first | rfl | assumption) ?_
            refine kv_aload_n dX4_open_134 rfl ?_
            refine kw_gR dX4_open_135 fX4_25 hu1 (by first | rfl | assumption) rfl rfl (by first | rfl | assumption) ?_
            refine kw_gR dX4_open_138 fX4_76 hu1 (by first | rfl | assumption) rfl rfl (by first | rfl | assumption) ?_
            refine kv_aload dX4_open_141 rfl ?_
            refine kw_gR dX4_open_143 fX4_80 hu1 (by first | rfl | assumption) rfl rfl (by first | rfl | assumption) ?_
            refine kv_iconst dX4_open_146 1 ki_1 ?_
            refine kv_aload_n dX4_open_147 rfl ?_
            refine kw_gI dX4_open_148 fX4_84 hu1 (by first | rfl | assumption) rfl rfl ?_
            rw [hr1.sg.ent hi 1 (by omega), hE.2.2.1]
            refine kv_isub dX4_open_151 ?_
            rw [show (1 - nI (kN g (1128 + 5 * i + 1)) : Int32) = nI (1 - kN g (1128 + 5 * i + 1)) from kn_sub (show (1 : Int32) = nI 1 from rfl) rfl (by omega)]
            refine kw_il dX4_open_152 hu1 (by first | rfl | assumption) (1 - kN g (1128 + 5 * i + 1)) rfl (by omega) rfl ?_
            rw [hr1.sg.cc hE.2.1 _ (by omega), h1.1]
            refine kw_al (t := 0) (n := 30) dX4_open_153 hu1 rfl rfl ((kCarOf g (kN g (1128 + 5 * i + 0)) (1 - kN g (1128 + 5 * i + 1)))) rfl (by omega) rfl (by first | rfl | assumption) ?_
            refine kw_gI dX4_open_154 fX4_87 hu1 (by first | rfl | assumption) rfl rfl ?_
            rw [hr1.sg.car h1.2.1 0 (by omega), h1.2.2.1]
            refine kv_dup2 dX4_open_157 rfl rfl ?_
            refine kw_ll dX4_open_158 hu1 (by first | rfl | assumption) (kIns g i (1 - kN g (1128 + 5 * i + 1))) rfl h1.2.2.2 rfl ?_
            rw [kv_sg_up hP1 _ h1.2.2.2]
            refine kv_aload_n dX4_open_159 rfl ?_
            refine kw_gI dX4_open_160 fX4_66 hu1 (by first | rfl | assumption) rfl rfl ?_
            rw [hr1.sg.ent hi 2 (by omega)]
            refine kv_i2l dX4_open_163 ?_
            refine kv_lsub dX4_open_164 ?_
            refine kw_ls dX4_open_165 hu1 (by first | rfl | assumption) (kIns g i (1 - kN g (1128 + 5 * i + 1))) rfl h1.2.2.2 rfl ?_
            refine kv_iinc (ls2 := [_, _, _, _, _]) dX4_open_166 (nI (i + 1)) rfl (kv_inc1 i) rfl rfl rfl rfl ?_
            refine kv_goto dX4_open_169 15 (by decide) ?_
            first
            | exact KV.loc (ih _ E (by rw [pe]; exact hP) (by rw [qe]; exact hH)) (ksS rfl (ksS rfl (ksS rfl (ks0 (ks0 ksN)))))
            | exact KV.loc (ih _ (E1.si (Or.inr (Or.inl ⟨rfl, rfl⟩))) (by rw [pe]; exact hP1) (by rw [qe]; exact kv_si_s _ _ _ _)) (ksS rfl (ksS rfl (ksS rfl (ks0 (ks0 ksN)))))
            | exact KV.loc (ih _ ((E1.sg (Or.inr (Or.inr rfl))).sg (Or.inr (Or.inr rfl))) (by rw [pe]; exact kv_sg_up (kv_sg_up hP1)) (by rw [qe]; exact hH1)) (ksS rfl (ksS rfl (ksS rfl (ks0 (ks0 ksN)))))
          · have pe := kPosA_n (g := g) (m := m) (e := i) (fun q => q.2 h5)
            have qe := kHeldA_y hI h5
            refine kv_aload_n dX4_open_66 rfl ?_
            refine kv_dup dX4_open_67 rfl ?_
            refine kw_gI dX4_open_68 fX4_39 hu1 (by first | rfl | assumption) rfl rfl ?_
            rw [hH1]
            refine kv_aload_n dX4_open_71 rfl ?_
            refine kw_gI dX4_open_72 fX4_66 hu1 (by first | rfl | assumption) rfl rfl ?_
            rw [hr1.ent hi 2 (by omega)]
            refine kv_iadd dX4_open_75 ?_
            refine kw_pI dX4_open_76 fX4_39 hu1 (by first | rfl | assumption) rfl rfl ?_
            refine kv_goto dX4_open_79 166 (by decide) ?_
            refine kv_iinc (ls2 := [_, _, _, _, _]) dX4_open_166 (nI (i + 1)) rfl (kv_inc1 i) rfl rfl rfl rfl ?_
            refine kv_goto dX4_open_169 15 (by decide) ?_
            first
            | exact KV.loc (ih _ E (by rw [pe]; exact hP) (by rw [qe]; exact hH)) (ksS rfl (ksS rfl (ksS rfl (ks0 (ks0 ksN)))))
            | exact KV.loc (ih _ (E1.si (Or.inr (Or.inl ⟨rfl, rfl⟩))) (by rw [pe]; exact hP1) (by rw [qe]; exact kv_si_s _ _ _ _)) (ksS rfl (ksS rfl (ksS rfl (ks0 (ks0 ksN)))))
            | exact KV.loc (ih _ ((E1.sg (Or.inr (Or.inr rfl))).sg (Or.inr (Or.inr rfl))) (by rw [pe]; exact kv_sg_up (kv_sg_up hP1)) (by rw [qe]; exact hH1)) (ksS rfl (ksS rfl (ksS rfl (ks0 (ks0 ksN)))))
        · have pe := kPosA_n (g := g) (m := m) (e := i) (fun q => h4 q.1.2)
          have qe := kHeldA_n (g := g) (m := m) (e := i) (fun q => h4 q.1.2)
          refine kv_goto dX4_open_52 166 (by decide) ?_
          refine kv_iinc (ls2 := [_, _, _, _, _]) dX4_open_166 (nI (i + 1)) rfl (kv_inc1 i) rfl rfl rfl rfl ?_
          refine kv_goto dX4_open_169 15 (by decide) ?_
          first
          | exact KV.loc (ih _ E (by rw [pe]; exact hP) (by rw [qe]; exact hH)) (ksS rfl (ksS rfl (ksS rfl (ks0 (ks0 ksN)))))
          | exact KV.loc (ih _ (E1.si (Or.inr (Or.inl ⟨rfl, rfl⟩))) (by rw [pe]; exact hP1) (by rw [qe]; exact kv_si_s _ _ _ _)) (ksS rfl (ksS rfl (ksS rfl (ks0 (ks0 ksN)))))
          | exact KV.loc (ih _ ((E1.sg (Or.inr (Or.inr rfl))).sg (Or.inr (Or.inr rfl))) (by rw [pe]; exact kv_sg_up (kv_sg_up hP1)) (by rw [qe]; exact hH1)) (ksS rfl (ksS rfl (ksS rfl (ks0 (ks0 ksN)))))

set_option maxRecDepth 20000 in
set_option maxHeartbeats 4000000 in
theorem qX12_insurerOf1 {w : KW} {l : Launch} {u : KMem} (hu : kWd u) {g : Nat → Int32} (eg : u.2.1 414 = g) (hg : kGI g) (e : Nat) (he : e < kN g 4) : KC w l mX12_insurerOf 2 0 0 [.ref 413, .int (nI e), .int 1] u (kq (some (.int (nI (kIns g e (kN g (1128 + 5 * e + 1)))))) u) := by
  have hx20 := (hg.cnt (k := 2) rfl).2
  have hc30 := (hg.cnt (k := 0) rfl).2
  have hw := hg.cnt (k := 4) rfl
  have hE := hg.ent he
  have h0 := hg.ins he (s := kN g (1128 + 5 * e + 1)) (by omega)
  refine KC.of (ls := [_, _, _, _]) rfl rfl (Nat.le_of_ble_eq_true rfl) ?_
  refine kv_iload_n dX12_insurerOf_0 rfl ?_
  refine kv_if_eq dX12_insurerOf_1 13 (by decide) (fun h1 => ?_) (fun h1 => ?_)
  · exact absurd h1 (by decide)
  · refine kv_aload_n dX12_insurerOf_4 rfl ?_
    refine kv_iload_n dX12_insurerOf_5 rfl ?_
    refine kv_iconst dX12_insurerOf_6 1 ki_1 ?_
    refine kw_Vi [_, _] mX12_line dX12_insurerOf_7 lX12_292 wX12_line kC12 hu rfl (by first | rfl | assumption) rfl rfl rfl (gX12_line hu eg e 1 (by omega) (by omega)) (by decide) ?_
    rw [hE.2.2.1]
    refine kv_goto dX12_insurerOf_10 21 (by decide) ?_
    refine kv_istore_n (ls2 := [_, _, _, _]) dX12_insurerOf_21 rfl rfl rfl rfl ?_
    refine kv_aload_n dX12_insurerOf_22 rfl ?_
    refine kv_aload_n dX12_insurerOf_23 rfl ?_
    refine kv_aload_n dX12_insurerOf_24 rfl ?_
    refine kv_iload_n dX12_insurerOf_25 rfl ?_
    refine kv_iconst dX12_insurerOf_26 0 ki_0 ?_
    refine kw_Vi [_, _] mX12_line dX12_insurerOf_27 lX12_292 wX12_line kC12 hu rfl (by first | rfl | assumption) rfl rfl rfl (gX12_line hu eg e 0 (by omega) (by omega)) (by decide) ?_
    rw [hE.1]
    refine kv_iload_n dX12_insurerOf_30 rfl ?_
    refine kw_Vi [_, _] mX12_carOf dX12_insurerOf_31 lX12_116 wX12_carOf kC12 hu rfl (by first | rfl | assumption) rfl rfl rfl (gX12_carOf hu eg (kN g (1128 + 5 * e + 0)) (kN g (1128 + 5 * e + 1)) (by omega) (by omega)) (by decide) ?_
    rw [h0.1]
    refine kv_iconst dX12_insurerOf_34 0 ki_0 ?_
    refine kw_Vi [_, _] mX12_car dX12_insurerOf_35 lX12_89 wX12_car kC12 hu rfl (by first | rfl | assumption) rfl rfl rfl (gX12_car hu eg (kCarOf g (kN g (1128 + 5 * e + 0)) (kN g (1128 + 5 * e + 1))) 0 (by omega) (by omega)) (by decide) ?_
    rw [h0.2.2.1]
    exact kv_iret dX12_insurerOf_38 rfl ⟨rfl, rfl⟩

set_option maxRecDepth 20000 in
set_option maxHeartbeats 4000000 in
theorem qX12_insurerOf0 {w : KW} {l : Launch} {u : KMem} (hu : kWd u) {g : Nat → Int32} (eg : u.2.1 414 = g) (hg : kGI g) (e : Nat) (he : e < kN g 4) : KC w l mX12_insurerOf 2 0 0 [.ref 413, .int (nI e), .int 0] u (kq (some (.int (nI (kIns g e ((1 - kN g (1128 + 5 * e + 1))))))) u) := by
  have hx20 := (hg.cnt (k := 2) rfl).2
  have hc30 := (hg.cnt (k := 0) rfl).2
  have hw := hg.cnt (k := 4) rfl
  have hE := hg.ent he
  have h0 := hg.ins he (s := (1 - kN g (1128 + 5 * e + 1))) (by omega)
  refine KC.of (ls := [_, _, _, _]) rfl rfl (Nat.le_of_ble_eq_true rfl) ?_
  refine kv_iload_n dX12_insurerOf_0 rfl ?_
  refine kv_if_eq dX12_insurerOf_1 13 (by decide) (fun h1 => ?_) (fun h1 => ?_)
  · refine kv_iconst dX12_insurerOf_13 1 ki_1 ?_
    refine kv_aload_n dX12_insurerOf_14 rfl ?_
    refine kv_iload_n dX12_insurerOf_15 rfl ?_
    refine kv_iconst dX12_insurerOf_16 1 ki_1 ?_
    refine kw_Vi [_, _] mX12_line dX12_insurerOf_17 lX12_292 wX12_line kC12 hu rfl (by first | rfl | assumption) rfl rfl rfl (gX12_line hu eg e 1 (by omega) (by omega)) (by decide) ?_
    rw [hE.2.2.1]
    refine kv_isub dX12_insurerOf_20 ?_
    rw [show (1 - nI (kN g (1128 + 5 * e + 1)) : Int32) = nI (1 - kN g (1128 + 5 * e + 1)) from kn_sub (show (1 : Int32) = nI 1 from rfl) rfl (by omega)]
    refine kv_istore_n (ls2 := [_, _, _, _]) dX12_insurerOf_21 rfl rfl rfl rfl ?_
    refine kv_aload_n dX12_insurerOf_22 rfl ?_
    refine kv_aload_n dX12_insurerOf_23 rfl ?_
    refine kv_aload_n dX12_insurerOf_24 rfl ?_
    refine kv_iload_n dX12_insurerOf_25 rfl ?_
    refine kv_iconst dX12_insurerOf_26 0 ki_0 ?_
    refine kw_Vi [_, _] mX12_line dX12_insurerOf_27 lX12_292 wX12_line kC12 hu rfl (by first | rfl | assumption) rfl rfl rfl (gX12_line hu eg e 0 (by omega) (by omega)) (by decide) ?_
    rw [hE.1]
    refine kv_iload_n dX12_insurerOf_30 rfl ?_
    refine kw_Vi [_, _] mX12_carOf dX12_insurerOf_31 lX12_116 wX12_carOf kC12 hu rfl (by first | rfl | assumption) rfl rfl rfl (gX12_carOf hu eg (kN g (1128 + 5 * e + 0)) ((1 - kN g (1128 + 5 * e + 1))) (by omega) (by omega)) (by decide) ?_
    rw [h0.1]
    refine kv_iconst dX12_insurerOf_34 0 ki_0 ?_
    refine kw_Vi [_, _] mX12_car dX12_insurerOf_35 lX12_89 wX12_car kC12 hu rfl (by first | rfl | assumption) rfl rfl rfl (gX12_car hu eg (kCarOf g (kN g (1128 + 5 * e + 0)) ((1 - kN g (1128 + 5 * e + 1)))) 0 (by omega) (by omega)) (by decide) ?_
    rw [h0.2.2.1]
    exact kv_iret dX12_insurerOf_38 rfl ⟨rfl, rfl⟩
  · exact absurd rfl h1

set_option maxRecDepth 20000 in
set_option maxHeartbeats 4000000 in
theorem qX12_findPositions {w : KW} {l : Launch} {u : KMem} (hu : kWd u) {g : Nat → Int32} (eg : u.2.1 414 = g) (hg : kGI g) (m : Int32) : KC w l mX12_findPositions 9 0 0 [.ref 413, .int m] u (fun r v => r = none ∧ kEq kSQ u v ∧ ∀ k, k < 11 → v.2.2.1 421 k = kPosA g m (kN g 4) k) := by
  have hx20 := (hg.cnt (k := 2) rfl).2
  have hc30 := (hg.cnt (k := 0) rfl).2
  have hw := hg.cnt (k := 4) rfl
  refine KC.of (ls := [_, _, _]) rfl rfl (Nat.le_of_ble_eq_true rfl) ?_
  refine kv_iconst dX12_findPositions_0 0 ki_0 ?_
  refine kv_istore_n (ls2 := [_, _, _]) dX12_findPositions_1 rfl rfl rfl rfl ?_
  refine KV.loc (ls2 := [some (.ref 413), some (.int m), some (.int (nI (0)))]) ?_ (ksS rfl (ksS rfl (ksS rfl ksN)))
  refine kn_loop (P := fun i => ∀ v : KMem, kEq kSQ u v → (∀ k, k < i → v.2.2.1 421 k = 0) → KV w l mX12_findPositions 9 0 0 2 [some (.ref 413), some (.int m), some (.int (nI i))] [] v (fun r v => r = none ∧ kEq kSQ u v ∧ ∀ k, k < 11 → v.2.2.1 421 k = kPosA g m (kN g 4) k)) (11) ?_ (fun i hi ih => ?_) u kEq.rf (fun k hk => absurd hk (Nat.not_lt_zero k))
  · intro v E hP
    have hv := E.wd hu
    have egv : v.2.1 414 = g := (E.row kSQ_now).trans eg
    refine kv_iload_n dX12_findPositions_2 rfl ?_
    refine kv_bipush dX12_findPositions_3 11 kb_11 ?_
    refine kv_icmp_ge dX12_findPositions_5 21 (by decide) (fun h1 => ?_) (fun h1 => ?_)
    · refine kv_iconst dX12_findPositions_21 0 ki_0 ?_
      refine kv_istore_n (ls2 := [_, _, _]) dX12_findPositions_22 rfl rfl rfl rfl ?_
      refine KV.loc (ls2 := [some (.ref 413), some (.int m), some (.int (nI (0)))]) ?_ (ksS rfl (ksS rfl (ksS rfl ksN)))
      refine kn_loop (P := fun i => ∀ v : KMem, kEq kSQ u v → (∀ k, k < 11 → v.2.2.1 421 k = kPosA g m i k) → KV w l mX12_findPositions 9 0 0 23 [some (.ref 413), some (.int m), some (.int (nI i))] [] v (fun r v => r = none ∧ kEq kSQ u v ∧ ∀ k, k < 11 → v.2.2.1 421 k = kPosA g m (kN g 4) k)) (kN g 4) ?_ (fun i hi ih => ?_) v E hP
      · intro v E hP
        have hv := E.wd hu
        have egv : v.2.1 414 = g := (E.row kSQ_now).trans eg
        refine kv_iload_n dX12_findPositions_23 rfl ?_
        refine kv_aload_n dX12_findPositions_24 rfl ?_
        refine kw_gR dX12_findPositions_25 fX12_9 hv (by first | rfl | assumption) rfl rfl (by first | rfl | assumption) ?_
        refine kv_iconst dX12_findPositions_28 4 ki_4 ?_
        refine kw_ig dX12_findPositions_29 hv egv rfl (_) (show (4 : Int32) = nI 4 from rfl) (by omega) rfl ?_
        rw [hw.1]
        refine kv_icmp_ge dX12_findPositions_30 108 (by decide) (fun h2 => ?_) (fun h2 => ?_)
        · exact kv_vret dX12_findPositions_108 rfl ⟨rfl, E, hP⟩
        · exact absurd h2 (fun q => q (Int32.le_refl _))
      · intro v E hP
        have hv := E.wd hu
        have egv : v.2.1 414 = g := (E.row kSQ_now).trans eg
        have hE := hg.ent hi
        have h0 := hg.ins hi hE.2.2.2
        have h1 := hg.ins hi (s := 1 - kN g (1128 + 5 * i + 1)) (by omega)
        refine kv_iload_n dX12_findPositions_23 rfl ?_
        refine kv_aload_n dX12_findPositions_24 rfl ?_
        refine kw_gR dX12_findPositions_25 fX12_9 hv (by first | rfl | assumption) rfl rfl (by first | rfl | assumption) ?_
        refine kv_iconst dX12_findPositions_28 4 ki_4 ?_
        refine kw_ig dX12_findPositions_29 hv egv rfl (_) (show (4 : Int32) = nI 4 from rfl) (by omega) rfl ?_
        rw [hw.1]
        refine kv_icmp_ge dX12_findPositions_30 108 (by decide) (fun h3 => ?_) (fun h3 => ?_)
        · exact absurd h3 (kn_ge hi (by omega))
        · refine kv_aload_n dX12_findPositions_33 rfl ?_
          refine kv_iload_n dX12_findPositions_34 rfl ?_
          refine kv_iconst dX12_findPositions_35 3 ki_3 ?_
          refine kw_Vi [_, _] mX12_line dX12_findPositions_36 lX12_292 wX12_line kC12 hv rfl (by first | rfl | assumption) rfl rfl rfl (gX12_line hv egv i 3 (by omega) (by omega)) (by decide) ?_
          refine kv_iload_n dX12_findPositions_39 rfl ?_
          refine kv_icmp_ne dX12_findPositions_40 102 (by decide) (fun h4 => ?_) (fun h4 => ?_)
          · have pe := kPosA_n (g := g) (m := m) (e := i) (fun q => h4 q.1.1)
            refine kv_iinc (ls2 := [_, _, _]) dX12_findPositions_102 (nI (i + 1)) rfl (kv_inc1 i) rfl rfl rfl rfl ?_
            refine kv_goto dX12_findPositions_105 23 (by decide) ?_
            first
            | exact KV.loc (ih _ E (by rw [pe]; exact hP)) (ksS rfl (ksS rfl (ksS rfl ksN)))
            | exact KV.loc (ih _ E1 (by rw [pe]; exact hP1)) (ksS rfl (ksS rfl (ksS rfl ksN)))
            | exact KV.loc (ih _ ((E1.sg (Or.inr rfl)).sg (Or.inr rfl)) (by rw [pe]; exact kv_sg_up (kv_sg_up hP1))) (ksS rfl (ksS rfl (ksS rfl ksN)))
          · have q1 := h4
            refine kv_aload_n dX12_findPositions_43 rfl ?_
            refine kv_iload_n dX12_findPositions_44 rfl ?_
            refine kw_Vi [_] mX12_firstOf dX12_findPositions_45 lX12_295 wX12_firstOf kC12 hv rfl (by first | rfl | assumption) rfl rfl rfl (qX12_firstOf hv egv hg i hi) (by decide) ?_
            refine kv_iload_n dX12_findPositions_48 rfl ?_
            refine kv_icmp_ne dX12_findPositions_49 102 (by decide) (fun h5 => ?_) (fun h5 => ?_)
            · have pe := kPosA_n (g := g) (m := m) (e := i) (fun q => h5 q.1.2)
              refine kv_iinc (ls2 := [_, _, _]) dX12_findPositions_102 (nI (i + 1)) rfl (kv_inc1 i) rfl rfl rfl rfl ?_
              refine kv_goto dX12_findPositions_105 23 (by decide) ?_
              first
              | exact KV.loc (ih _ E (by rw [pe]; exact hP)) (ksS rfl (ksS rfl (ksS rfl ksN)))
              | exact KV.loc (ih _ E1 (by rw [pe]; exact hP1)) (ksS rfl (ksS rfl (ksS rfl ksN)))
              | exact KV.loc (ih _ ((E1.sg (Or.inr rfl)).sg (Or.inr rfl)) (by rw [pe]; exact kv_sg_up (kv_sg_up hP1))) (ksS rfl (ksS rfl (ksS rfl ksN)))
            · have hI : kIn g m i := ⟨q1, h5⟩
              refine kv_aload_n dX12_findPositions_52 rfl ?_
              refine kv_iload_n dX12_findPositions_53 rfl ?_
              refine kw_VQ [_] mX12_isDisputed dX12_findPositions_54 lX12_298 wX12_isDisputed kC12 hv rfl (by first | rfl | assumption) rfl rfl rfl (rX12_isDisputed hv egv hg i hi) (by decide) (fun _ v1 q1 => ?_)
              obtain ⟨rfl, e0⟩ := q1
              have e1 := kSP_Q e0
              have hP1 : ∀ k, k < 11 → v1.2.2.1 421 k = kPosA g m i k := fun k hk => (e0.2.2.2 421 k (by unfold kSP; omega)).trans (hP k hk)
              have hu1 := e1.wd hv
              have E1 := E.tr e1
              have eg1 : v1.2.1 414 = g := (E1.row kSQ_now).trans eg
              refine kw_bne dX12_findPositions_57 102 (by decide) (fun h6 => ?_) (fun h6 => ?_)
              · have pe := kPosA_n (g := g) (m := m) (e := i) (fun q => q.2 h6)
                refine kv_iinc (ls2 := [_, _, _]) dX12_findPositions_102 (nI (i + 1)) rfl (kv_inc1 i) rfl rfl rfl rfl ?_
                refine kv_goto dX12_findPositions_105 23 (by decide) ?_
                first
                | exact KV.loc (ih _ E (by rw [pe]; exact hP)) (ksS rfl (ksS rfl (ksS rfl ksN)))
                | exact KV.loc (ih _ E1 (by rw [pe]; exact hP1)) (ksS rfl (ksS rfl (ksS rfl ksN)))
                | exact KV.loc (ih _ ((E1.sg (Or.inr rfl)).sg (Or.inr rfl)) (by rw [pe]; exact kv_sg_up (kv_sg_up hP1))) (ksS rfl (ksS rfl (ksS rfl ksN)))
              · have pe := kPosA_y hI h6
                refine kv_aload_n dX12_findPositions_60 rfl ?_
                refine kw_gR dX12_findPositions_61 fX12_40 hu1 (by first | rfl | assumption) rfl rfl (by first | rfl | assumption) ?_
                refine kv_aload_n dX12_findPositions_64 rfl ?_
                refine kv_iload_n dX12_findPositions_65 rfl ?_
                refine kv_iconst dX12_findPositions_66 1 ki_1 ?_
                refine kw_Vi [_, _] mX12_insurerOf dX12_findPositions_67 lX12_314 wX12_insurerOf kC12 hu1 rfl (by first | rfl | assumption) rfl rfl rfl (qX12_insurerOf1 hu1 eg1 hg i hi) (by decide) ?_
                refine kv_dup2 dX12_findPositions_70 rfl rfl ?_
                refine kw_ll dX12_findPositions_71 hu1 (by first | rfl | assumption) (kIns g i (kN g (1128 + 5 * i + 1))) rfl h0.2.2.2 rfl ?_
                rw [hP1 _ h0.2.2.2]
                refine kv_aload_n dX12_findPositions_72 rfl ?_
                refine kv_iload_n dX12_findPositions_73 rfl ?_
                refine kv_iconst dX12_findPositions_74 2 ki_2 ?_
                refine kw_Vi [_, _] mX12_line dX12_findPositions_75 lX12_292 wX12_line kC12 hu1 rfl (by first | rfl | assumption) rfl rfl rfl (gX12_line hu1 eg1 i 2 (by omega) (by omega)) (by decide) ?_
                refine kv_i2l dX12_findPositions_78 ?_
                refine kv_ladd dX12_findPositions_79 ?_
                refine kw_ls dX12_findPositions_80 hu1 (by first | rfl | assumption) (kIns g i (kN g (1128 + 5 * i + 1))) rfl h0.2.2.2 rfl ?_
                refine kv_aload_n dX12_findPositions_81 rfl ?_
                refine kw_gR dX12_findPositions_82 fX12_40 hu1 (by first | rfl | assumption) rfl rfl (by first | rfl | assumption) ?_
                refine kv_aload_n dX12_findPositions_85 rfl ?_
                refine kv_iload_n dX12_findPositions_86 rfl ?_
                refine kv_iconst dX12_findPositions_87 0 ki_0 ?_
                refine kw_Vi [_, _] mX12_insurerOf dX12_findPositions_88 lX12_314 wX12_insurerOf kC12 hu1 rfl (by first | rfl | assumption) rfl rfl rfl (qX12_insurerOf0 (by exact hu1) (by exact eg1) hg i hi) (by decide) ?_
                refine kv_dup2 dX12_findPositions_91 rfl rfl ?_
                refine kw_ll dX12_findPositions_92 hu1 (by first | rfl | assumption) (kIns g i (1 - kN g (1128 + 5 * i + 1))) rfl h1.2.2.2 rfl ?_
                rw [kv_sg_up hP1 _ h1.2.2.2]
                refine kv_aload_n dX12_findPositions_93 rfl ?_
                refine kv_iload_n dX12_findPositions_94 rfl ?_
                refine kv_iconst dX12_findPositions_95 2 ki_2 ?_
                refine kw_Vi [_, _] mX12_line dX12_findPositions_96 lX12_292 wX12_line kC12 hu1 rfl (by first | rfl | assumption) rfl rfl rfl (gX12_line (by exact hu1) (by exact eg1) i 2 (by omega) (by omega)) (by decide) ?_
                refine kv_i2l dX12_findPositions_99 ?_
                refine kv_lsub dX12_findPositions_100 ?_
                refine kw_ls dX12_findPositions_101 hu1 (by first | rfl | assumption) (kIns g i (1 - kN g (1128 + 5 * i + 1))) rfl h1.2.2.2 rfl ?_
                refine kv_iinc (ls2 := [_, _, _]) dX12_findPositions_102 (nI (i + 1)) rfl (kv_inc1 i) rfl rfl rfl rfl ?_
                refine kv_goto dX12_findPositions_105 23 (by decide) ?_
                first
                | exact KV.loc (ih _ E (by rw [pe]; exact hP)) (ksS rfl (ksS rfl (ksS rfl ksN)))
                | exact KV.loc (ih _ E1 (by rw [pe]; exact hP1)) (ksS rfl (ksS rfl (ksS rfl ksN)))
                | exact KV.loc (ih _ ((E1.sg (Or.inr rfl)).sg (Or.inr rfl)) (by rw [pe]; exact kv_sg_up (kv_sg_up hP1))) (ksS rfl (ksS rfl (ksS rfl ksN)))
    · exact absurd (Int32.le_refl (nI 11)) h1
  · intro v E hP
    have hv := E.wd hu
    have egv : v.2.1 414 = g := (E.row kSQ_now).trans eg
    refine kv_iload_n dX12_findPositions_2 rfl ?_
    refine kv_bipush dX12_findPositions_3 11 kb_11 ?_
    refine kv_icmp_ge dX12_findPositions_5 21 (by decide) (fun h7 => ?_) (fun h7 => ?_)
    · exact absurd h7 (kn_ge (n := 11) hi (by omega))
    · refine kv_aload_n dX12_findPositions_8 rfl ?_
      refine kw_gR dX12_findPositions_9 fX12_40 hv (by first | rfl | assumption) rfl rfl (by first | rfl | assumption) ?_
      refine kv_iload_n dX12_findPositions_12 rfl ?_
      refine kv_lconst dX12_findPositions_13 0 kl_0 ?_
      refine kw_ls dX12_findPositions_14 hv (by first | rfl | assumption) (i) rfl (by omega) rfl ?_
      refine kv_iinc (ls2 := [_, _, _]) dX12_findPositions_15 (nI (i + 1)) rfl (kv_inc1 i) rfl rfl rfl rfl ?_
      refine kv_goto dX12_findPositions_18 2 (by decide) ?_
      refine KV.loc (ih _ (E.sg (Or.inr rfl)) (fun k hk => ?_)) (ksS rfl (ksS rfl (ksS rfl ksN)))
      by_cases q : k = i
      · subst q; exact kv_sg_s _ _ _ _
      · rw [kv_sg_n (fun z => q z.2)]; exact hP k (by omega)

noncomputable def kposition (a : KA) (p0 p1 : Int32) : Int32 × KA := if kOut p0 0 10 ∨ kOut p1 0 33 then (-1000001, kF a 1) else ((kPosA (a 0) p1 (kN (a 0) 4) p0.toNatClampNeg).toInt32, a)
noncomputable def kheld (a : KA) (p0 : Int32) : Int32 × KA := if kOut p0 0 33 then (-1000001, kF a 1) else (kHeldA (a 0) p0 (kN (a 0) 4), a)
set_option maxRecDepth 20000 in
set_option maxHeartbeats 4000000 in
theorem qX11_position {w : KW} {l : Launch} {u : KMem} (hu : kWd u) {a : KA} (hx : kRX a u) (ho : kOk a) (p0 p1 : Int32) : KC w l mX11_position 7 0 0 [.ref 0, .int p0, .int p1] u (kOX u (kposition a p0 p1).1 (kposition a p0 p1).2) := by
  have hr := hx.1
  have hg := ho.1
  have hx20 := (hg.cnt (k := 2) rfl).2
  have hc30 := (hg.cnt (k := 0) rfl).2
  have ht10 := (hg.cnt (k := 3) rfl).2
  have he40 := (hg.cnt (k := 4) rfl).2
  have hs16 := hg.cnt (k := 1) rfl
  refine KC.of (ls := [_, _, _]) rfl rfl (Nat.le_of_ble_eq_true rfl) ?_
  refine kv_iload_n dX11_position_0 rfl ?_
  refine kv_iconst dX11_position_1 0 ki_0 ?_
  refine kv_bipush dX11_position_2 10 kb_10 ?_
  refine kw_Si [_, _, _] mX11_outside dX11_position_4 lX11_69 wX11_outside rfl rfl rfl (qX11_outside (by exact hu) _ _ _) (by decide) ?_
  refine kw_bne dX11_position_7 20 (by decide) (fun h1 => ?_) (fun h1 => ?_)
  · have hS : kposition a p0 p1 = (-1000001, kF a 1) := if_pos (Or.inl h1)
    refine kv_aload_n dX11_position_20 rfl ?_
    refine kv_ldc dX11_position_21 kX11_74 ?_
    refine kw_Vi [_] mX11_refuse dX11_position_23 lX11_75 wX11_refuse kC11 hu rfl (by first | rfl | assumption) rfl rfl rfl (qX11_refuse (by exact hu) 1 (by decide) (by decide) _ (by decide)) (by decide) ?_
    exact kv_iret dX11_position_26 rfl (by rw [hS]; exact kOX.no hx ho hu (by decide) rfl)
  · have n1 : ¬ kOut p0 0 10 := h1
    refine kv_iload_n dX11_position_10 rfl ?_
    refine kv_iconst dX11_position_11 0 ki_0 ?_
    refine kv_bipush dX11_position_12 33 kb_33 ?_
    refine kw_Si [_, _, _] mX11_outside dX11_position_14 lX11_69 wX11_outside rfl rfl rfl (qX11_outside (by exact hu) _ _ _) (by decide) ?_
    refine kw_beq dX11_position_17 27 (by decide) (fun h2 => ?_) (fun h2 => ?_)
    · have n2 : ¬ kOut p1 0 33 := h2
      have hS : kposition a p0 p1 = _ := if_neg (fun q => q.elim n1 n2)
      obtain ⟨j, hj, rfl⟩ := kOut.bd (n := 10) (by omega) n1
      rw [nI_clamp (by omega)] at hS
      refine kv_aload_n dX11_position_27 rfl ?_
      refine kw_gR dX11_position_28 fX11_40 hu (by first | rfl | assumption) rfl rfl (by first | rfl | assumption) ?_
      refine kv_iload_n dX11_position_31 rfl ?_
      refine kw_VQ [_] mX4_open dX11_position_32 lX11_312 wX4_open kC4 hu rfl (by first | rfl | assumption) rfl rfl rfl (qX4_open hu hr hg p1) (by decide) (fun _ v1 q1 => ?_)
      obtain ⟨rfl, eL, hp, hh⟩ := q1
      have e1 := kSL_X eL
      have hu1 := e1.wd hu
      have E1 := e1
      refine kv_aload_n dX11_position_35 rfl ?_
      refine kw_gR dX11_position_36 fX11_40 hu1 (by first | rfl | assumption) rfl rfl (by first | rfl | assumption) ?_
      refine kw_gR dX11_position_39 fX11_316 hu1 (by first | rfl | assumption) rfl rfl (by first | rfl | assumption) ?_
      refine kv_iload_n dX11_position_42 rfl ?_
      refine kw_ll dX11_position_43 hu1 (by first | rfl | assumption) (j) rfl (by omega) rfl ?_
      rw [hp j (by omega)]
      refine kv_l2i dX11_position_44 ?_
      exact kv_iret dX11_position_45 rfl (by rw [hS]; exact kOX.id hx ho hu E1 rfl)
    · have hS : kposition a p0 p1 = (-1000001, kF a 1) := if_pos (Or.inr (h2))
      refine kv_aload_n dX11_position_20 rfl ?_
      refine kv_ldc dX11_position_21 kX11_74 ?_
      refine kw_Vi [_] mX11_refuse dX11_position_23 lX11_75 wX11_refuse kC11 hu rfl (by first | rfl | assumption) rfl rfl rfl (qX11_refuse (by exact hu) 1 (by decide) (by decide) _ (by decide)) (by decide) ?_
      exact kv_iret dX11_position_26 rfl (by rw [hS]; exact kOX.no hx ho hu (by decide) rfl)

set_option maxRecDepth 20000 in
set_option maxHeartbeats 4000000 in
theorem qX12_position {w : KW} {l : Launch} {u : KMem} (hu : kWd u) {a : KA} (hm : kRM a u) (ho : kOk a) (p0 p1 : Int32) : KC w l mX12_position 10 0 0 [.ref 413, .int p0, .int p1] u (kOM u (kposition a p0 p1).1 (kposition a p0 p1).2) := by
  have eg := hm.1
  have hg := ho.1
  have hx20 := (hg.cnt (k := 2) rfl).2
  have hc30 := (hg.cnt (k := 0) rfl).2
  have ht10 := (hg.cnt (k := 3) rfl).2
  have he40 := (hg.cnt (k := 4) rfl).2
  have hs16 := hg.cnt (k := 1) rfl
  refine KC.of (ls := [_, _, _]) rfl rfl (Nat.le_of_ble_eq_true rfl) ?_
  refine kv_iload_n dX12_position_0 rfl ?_
  refine kv_iconst dX12_position_1 0 ki_0 ?_
  refine kv_bipush dX12_position_2 10 kb_10 ?_
  refine kw_Si [_, _, _] mX12_within dX12_position_4 lX12_78 wX12_within rfl rfl rfl (qX12_within (by exact hu) _ _ _) (by decide) ?_
  refine kw_beq dX12_position_7 17 (by decide) (fun h1 => ?_) (fun h1 => ?_)
  · have hS : kposition a p0 p1 = (-1000001, kF a 1) := if_pos (Or.inl (kIn_n h1))
    refine kv_aload_n dX12_position_17 rfl ?_
    refine kv_ldc dX12_position_18 kX12_83 ?_
    refine kw_Vi [_] mX12_finding dX12_position_20 lX12_84 wX12_finding kC12 hu rfl (by first | rfl | assumption) rfl rfl rfl (qX12_finding (by exact hu) 1 (by decide) (by decide) _ (by decide)) (by decide) ?_
    exact kv_iret dX12_position_23 rfl (by rw [hS]; exact kOM.no hm hu rfl)
  · have n1 : ¬ kOut p0 0 10 := kIn_y h1
    refine kv_iload_n dX12_position_10 rfl ?_
    refine kw_Si [_] mX12_isMonth dX12_position_11 lX12_317 wX12_isMonth rfl rfl rfl (qX12_isMonth (by exact hu) _) (by decide) ?_
    refine kw_bne dX12_position_14 24 (by decide) (fun h2 => ?_) (fun h2 => ?_)
    · have n2 : ¬ kOut p1 0 33 := kIn_y h2
      have hS : kposition a p0 p1 = _ := if_neg (fun q => q.elim n1 n2)
      obtain ⟨j, hj, rfl⟩ := kOut.bd (n := 10) (by omega) n1
      rw [nI_clamp (by omega)] at hS
      refine kv_aload_n dX12_position_24 rfl ?_
      refine kv_iload_n dX12_position_25 rfl ?_
      refine kw_VQ [_] mX12_findPositions dX12_position_26 lX12_320 wX12_findPositions kC12 hu rfl (by first | rfl | assumption) rfl rfl rfl (qX12_findPositions hu eg hg p1) (by decide) (fun _ v1 q1 => ?_)
      obtain ⟨rfl, eL, hp⟩ := q1
      have e1 := kSQ_M eL
      have hu1 := e1.wd hu
      have E1 := e1
      have eg1 : v1.2.1 414 = a 0 := (E1.row kSM_now).trans eg
      refine kv_aload_n dX12_position_29 rfl ?_
      refine kw_gR dX12_position_30 fX12_40 hu1 (by first | rfl | assumption) rfl rfl (by first | rfl | assumption) ?_
      refine kv_iload_n dX12_position_33 rfl ?_
      refine kw_ll dX12_position_34 hu1 (by first | rfl | assumption) (j) rfl (by omega) rfl ?_
      rw [hp j (by omega)]
      refine kv_l2i dX12_position_35 ?_
      exact kv_iret dX12_position_36 rfl (by rw [hS]; exact kOM.id hm hu E1 rfl)
    · have hS : kposition a p0 p1 = (-1000001, kF a 1) := if_pos (Or.inr ((kIn_n h2)))
      refine kv_aload_n dX12_position_17 rfl ?_
      refine kv_ldc dX12_position_18 kX12_83 ?_
      refine kw_Vi [_] mX12_finding dX12_position_20 lX12_84 wX12_finding kC12 hu rfl (by first | rfl | assumption) rfl rfl rfl (qX12_finding (by exact hu) 1 (by decide) (by decide) _ (by decide)) (by decide) ?_
      exact kv_iret dX12_position_23 rfl (by rw [hS]; exact kOM.no hm hu rfl)

set_option maxRecDepth 20000 in
set_option maxHeartbeats 4000000 in
theorem qX11_held {w : KW} {l : Launch} {u : KMem} (hu : kWd u) {a : KA} (hx : kRX a u) (ho : kOk a) (p0 : Int32) : KC w l mX11_held 7 0 0 [.ref 0, .int p0] u (kOX u (kheld a p0).1 (kheld a p0).2) := by
  have hr := hx.1
  have hg := ho.1
  have hx20 := (hg.cnt (k := 2) rfl).2
  have hc30 := (hg.cnt (k := 0) rfl).2
  have ht10 := (hg.cnt (k := 3) rfl).2
  have he40 := (hg.cnt (k := 4) rfl).2
  have hs16 := hg.cnt (k := 1) rfl
  refine KC.of (ls := [_, _]) rfl rfl (Nat.le_of_ble_eq_true rfl) ?_
  refine kv_iload_n dX11_held_0 rfl ?_
  refine kv_iconst dX11_held_1 0 ki_0 ?_
  refine kv_bipush dX11_held_2 33 kb_33 ?_
  refine kw_Si [_, _, _] mX11_outside dX11_held_4 lX11_69 wX11_outside rfl rfl rfl (qX11_outside (by exact hu) _ _ _) (by decide) ?_
  refine kw_beq dX11_held_7 17 (by decide) (fun h1 => ?_) (fun h1 => ?_)
  · have n1 : ¬ kOut p0 0 33 := h1
    have hS : kheld a p0 = _ := if_neg n1
    refine kv_aload_n dX11_held_17 rfl ?_
    refine kw_gR dX11_held_18 fX11_40 hu (by first | rfl | assumption) rfl rfl (by first | rfl | assumption) ?_
    refine kv_iload_n dX11_held_21 rfl ?_
    refine kw_VQ [_] mX4_open dX11_held_22 lX11_312 wX4_open kC4 hu rfl (by first | rfl | assumption) rfl rfl rfl (qX4_open hu hr hg p0) (by decide) (fun _ v1 q1 => ?_)
    obtain ⟨rfl, eL, hp, hh⟩ := q1
    have e1 := kSL_X eL
    have hu1 := e1.wd hu
    have E1 := e1
    refine kv_aload_n dX11_held_25 rfl ?_
    refine kw_gR dX11_held_26 fX11_40 hu1 (by first | rfl | assumption) rfl rfl (by first | rfl | assumption) ?_
    refine kw_gI dX11_held_29 fX11_320 hu1 (by first | rfl | assumption) rfl rfl ?_
    rw [hh]
    exact kv_iret dX11_held_32 rfl (by rw [hS]; exact kOX.id hx ho hu E1 rfl)
  · have hS : kheld a p0 = (-1000001, kF a 1) := if_pos (h1)
    refine kv_aload_n dX11_held_10 rfl ?_
    refine kv_ldc dX11_held_11 kX11_74 ?_
    refine kw_Vi [_] mX11_refuse dX11_held_13 lX11_75 wX11_refuse kC11 hu rfl (by first | rfl | assumption) rfl rfl rfl (qX11_refuse (by exact hu) 1 (by decide) (by decide) _ (by decide)) (by decide) ?_
    exact kv_iret dX11_held_16 rfl (by rw [hS]; exact kOX.no hx ho hu (by decide) rfl)

set_option maxRecDepth 20000 in
set_option maxHeartbeats 4000000 in
theorem qX12_held {w : KW} {l : Launch} {u : KMem} (hu : kWd u) {a : KA} (hm : kRM a u) (ho : kOk a) (p0 : Int32) : KC w l mX12_held 9 0 0 [.ref 413, .int p0] u (kOM u (kheld a p0).1 (kheld a p0).2) := by
  have eg := hm.1
  have hg := ho.1
  have hx20 := (hg.cnt (k := 2) rfl).2
  have hc30 := (hg.cnt (k := 0) rfl).2
  have ht10 := (hg.cnt (k := 3) rfl).2
  have he40 := (hg.cnt (k := 4) rfl).2
  have hs16 := hg.cnt (k := 1) rfl
  have hw := hg.cnt (k := 4) rfl
  refine KC.of (ls := [_, _, _, _]) rfl rfl (Nat.le_of_ble_eq_true rfl) ?_
  refine kv_iload_n dX12_held_0 rfl ?_
  refine kw_Si [_] mX12_isMonth dX12_held_1 lX12_317 wX12_isMonth rfl rfl rfl (qX12_isMonth (by exact hu) _) (by decide) ?_
  refine kw_bne dX12_held_4 14 (by decide) (fun h1 => ?_) (fun h1 => ?_)
  · have n1 : ¬ kOut p0 0 33 := kIn_y h1
    have hS : kheld a p0 = _ := if_neg n1
    refine kv_iconst dX12_held_14 0 ki_0 ?_
    refine kv_istore_n (ls2 := [_, _, _, _]) dX12_held_15 rfl rfl rfl rfl ?_
    refine kv_iconst dX12_held_16 0 ki_0 ?_
    refine kv_istore_n (ls2 := [_, _, _, _]) dX12_held_17 rfl rfl rfl rfl ?_
    refine KV.loc (ls2 := [some (.ref 413), some (.int p0), some (.int (kHeldA (a 0) p0 (0))), some (.int (nI (0)))]) ?_ (ksS (by first | rfl | exact congrArg (fun z => some (Value.int z)) qe.symm | exact congrArg (fun z => some (Value.int z)) ((Int32.add_zero _).trans qe.symm)) (ksS (by first | rfl | exact congrArg (fun z => some (Value.int z)) qe.symm | exact congrArg (fun z => some (Value.int z)) ((Int32.add_zero _).trans qe.symm)) (ksS (by first | rfl | exact congrArg (fun z => some (Value.int z)) qe.symm | exact congrArg (fun z => some (Value.int z)) ((Int32.add_zero _).trans qe.symm)) (ksS (by first | rfl | exact congrArg (fun z => some (Value.int z)) qe.symm | exact congrArg (fun z => some (Value.int z)) ((Int32.add_zero _).trans qe.symm)) ksN))))
    refine kn_loop (P := fun i => ∀ v : KMem, kEq kSM u v → KV w l mX12_held 9 0 0 18 [some (.ref 413), some (.int p0), some (.int (kHeldA (a 0) p0 i)), some (.int (nI i))] [] v (kOM u (kheld a p0).1 (kheld a p0).2)) (kN (a 0) 4) ?_ (fun i hi ih => ?_) u kEq.rf
    · intro v E
      have hv := E.wd hu
      have egv : v.2.1 414 = a 0 := (E.row kSM_now).trans eg
      refine kv_iload_n dX12_held_18 rfl ?_
      refine kv_aload_n dX12_held_19 rfl ?_
      refine kw_gR dX12_held_20 fX12_9 hv (by first | rfl | assumption) rfl rfl (by first | rfl | assumption) ?_
      refine kv_iconst dX12_held_23 4 ki_4 ?_
      refine kw_ig dX12_held_24 hv egv rfl (_) (show (4 : Int32) = nI 4 from rfl) (by omega) rfl ?_
      rw [hw.1]
      refine kv_icmp_ge dX12_held_25 74 (by decide) (fun h2 => ?_) (fun h2 => ?_)
      · refine kv_iload_n dX12_held_74 rfl ?_
        exact kv_iret dX12_held_75 rfl (by rw [hS]; exact kOM.id hm hu E rfl)
      · exact absurd h2 (fun q => q (Int32.le_refl _))
    · intro v E
      have hv := E.wd hu
      have egv : v.2.1 414 = a 0 := (E.row kSM_now).trans eg
      refine kv_iload_n dX12_held_18 rfl ?_
      refine kv_aload_n dX12_held_19 rfl ?_
      refine kw_gR dX12_held_20 fX12_9 hv (by first | rfl | assumption) rfl rfl (by first | rfl | assumption) ?_
      refine kv_iconst dX12_held_23 4 ki_4 ?_
      refine kw_ig dX12_held_24 hv egv rfl (_) (show (4 : Int32) = nI 4 from rfl) (by omega) rfl ?_
      rw [hw.1]
      refine kv_icmp_ge dX12_held_25 74 (by decide) (fun h3 => ?_) (fun h3 => ?_)
      · exact absurd h3 (kn_ge hi (by omega))
      · refine kv_iload_n dX12_held_28 rfl ?_
        refine kv_aload_n dX12_held_29 rfl ?_
        refine kv_iload_n dX12_held_30 rfl ?_
        refine kv_iconst dX12_held_31 3 ki_3 ?_
        refine kw_Vi [_, _] mX12_line dX12_held_32 lX12_292 wX12_line kC12 hv rfl (by first | rfl | assumption) rfl rfl rfl (gX12_line hv egv i 3 (by omega) (by omega)) (by decide) ?_
        refine kv_iload_n dX12_held_35 rfl ?_
        refine kv_icmp_ne dX12_held_36 65 (by decide) (fun h4 => ?_) (fun h4 => ?_)
        · have qe := kHeldA_n (g := a 0) (m := p0) (e := i) (fun q => h4 q.1.1)
          refine kv_iconst dX12_held_65 0 ki_0 ?_
          refine kv_iadd dX12_held_66 ?_
          refine kv_istore_n (ls2 := [_, _, _, _]) dX12_held_67 rfl rfl rfl rfl ?_
          refine kv_iinc (ls2 := [_, _, _, _]) dX12_held_68 (nI (i + 1)) rfl (kv_inc1 i) rfl rfl rfl rfl ?_
          refine kv_goto dX12_held_71 18 (by decide) ?_
          exact KV.loc (ih _ E) (ksS (by first | rfl | exact congrArg (fun z => some (Value.int z)) qe.symm | exact congrArg (fun z => some (Value.int z)) ((Int32.add_zero _).trans qe.symm)) (ksS (by first | rfl | exact congrArg (fun z => some (Value.int z)) qe.symm | exact congrArg (fun z => some (Value.int z)) ((Int32.add_zero _).trans qe.symm)) (ksS (by first | rfl | exact congrArg (fun z => some (Value.int z)) qe.symm | exact congrArg (fun z => some (Value.int z)) ((Int32.add_zero _).trans qe.symm)) (ksS (by first | rfl | exact congrArg (fun z => some (Value.int z)) qe.symm | exact congrArg (fun z => some (Value.int z)) ((Int32.add_zero _).trans qe.symm)) ksN))))
        · have q1 := h4
          refine kv_aload_n dX12_held_39 rfl ?_
          refine kv_iload_n dX12_held_40 rfl ?_
          refine kw_Vi [_] mX12_firstOf dX12_held_41 lX12_295 wX12_firstOf kC12 hv rfl (by first | rfl | assumption) rfl rfl rfl (qX12_firstOf hv egv hg i hi) (by decide) ?_
          refine kv_iload_n dX12_held_44 rfl ?_
          refine kv_icmp_ne dX12_held_45 65 (by decide) (fun h5 => ?_) (fun h5 => ?_)
          · have qe := kHeldA_n (g := a 0) (m := p0) (e := i) (fun q => h5 q.1.2)
            refine kv_iconst dX12_held_65 0 ki_0 ?_
            refine kv_iadd dX12_held_66 ?_
            refine kv_istore_n (ls2 := [_, _, _, _]) dX12_held_67 rfl rfl rfl rfl ?_
            refine kv_iinc (ls2 := [_, _, _, _]) dX12_held_68 (nI (i + 1)) rfl (kv_inc1 i) rfl rfl rfl rfl ?_
            refine kv_goto dX12_held_71 18 (by decide) ?_
            exact KV.loc (ih _ E) (ksS (by first | rfl | exact congrArg (fun z => some (Value.int z)) qe.symm | exact congrArg (fun z => some (Value.int z)) ((Int32.add_zero _).trans qe.symm)) (ksS (by first | rfl | exact congrArg (fun z => some (Value.int z)) qe.symm | exact congrArg (fun z => some (Value.int z)) ((Int32.add_zero _).trans qe.symm)) (ksS (by first | rfl | exact congrArg (fun z => some (Value.int z)) qe.symm | exact congrArg (fun z => some (Value.int z)) ((Int32.add_zero _).trans qe.symm)) (ksS (by first | rfl | exact congrArg (fun z => some (Value.int z)) qe.symm | exact congrArg (fun z => some (Value.int z)) ((Int32.add_zero _).trans qe.symm)) ksN))))
          · have hI : kIn (a 0) p0 i := ⟨q1, h5⟩
            refine kv_aload_n dX12_held_48 rfl ?_
            refine kv_iload_n dX12_held_49 rfl ?_
            refine kw_Vpi [_] mX12_isDisputed dX12_held_50 lX12_298 wX12_isDisputed kC12 hv rfl (by first | rfl | assumption) rfl rfl rfl (qX12_isDisputed hv egv hg i hi) (by decide) (fun v1 e1 => ?_)
            have hu1 := e1.wd hv
            have E1 := E.tr e1
            have eg1 : v1.2.1 414 = a 0 := (E1.row kSM_now).trans eg
            refine kw_beq dX12_held_53 65 (by decide) (fun h6 => ?_) (fun h6 => ?_)
            · have qe := kHeldA_n (g := a 0) (m := p0) (e := i) (fun q => h6 q.2)
              refine kv_iconst dX12_held_65 0 ki_0 ?_
              refine kv_iadd dX12_held_66 ?_
              refine kv_istore_n (ls2 := [_, _, _, _]) dX12_held_67 rfl rfl rfl rfl ?_
              refine kv_iinc (ls2 := [_, _, _, _]) dX12_held_68 (nI (i + 1)) rfl (kv_inc1 i) rfl rfl rfl rfl ?_
              refine kv_goto dX12_held_71 18 (by decide) ?_
              exact KV.loc (ih _ E1) (ksS (by first | rfl | exact congrArg (fun z => some (Value.int z)) qe.symm | exact congrArg (fun z => some (Value.int z)) ((Int32.add_zero _).trans qe.symm)) (ksS (by first | rfl | exact congrArg (fun z => some (Value.int z)) qe.symm | exact congrArg (fun z => some (Value.int z)) ((Int32.add_zero _).trans qe.symm)) (ksS (by first | rfl | exact congrArg (fun z => some (Value.int z)) qe.symm | exact congrArg (fun z => some (Value.int z)) ((Int32.add_zero _).trans qe.symm)) (ksS (by first | rfl | exact congrArg (fun z => some (Value.int z)) qe.symm | exact congrArg (fun z => some (Value.int z)) ((Int32.add_zero _).trans qe.symm)) ksN))))
            · have qe := kHeldA_y hI h6
              refine kv_aload_n dX12_held_56 rfl ?_
              refine kv_iload_n dX12_held_57 rfl ?_
              refine kv_iconst dX12_held_58 2 ki_2 ?_
              refine kw_Vi [_, _] mX12_line dX12_held_59 lX12_292 wX12_line kC12 hu1 rfl (by first | rfl | assumption) rfl rfl rfl (gX12_line hu1 eg1 i 2 (by omega) (by omega)) (by decide) ?_
              refine kv_goto dX12_held_62 66 (by decide) ?_
              refine kv_iadd dX12_held_66 ?_
              refine kv_istore_n (ls2 := [_, _, _, _]) dX12_held_67 rfl rfl rfl rfl ?_
              refine kv_iinc (ls2 := [_, _, _, _]) dX12_held_68 (nI (i + 1)) rfl (kv_inc1 i) rfl rfl rfl rfl ?_
              refine kv_goto dX12_held_71 18 (by decide) ?_
              exact KV.loc (ih _ E1) (ksS (by first | rfl | exact congrArg (fun z => some (Value.int z)) qe.symm | exact congrArg (fun z => some (Value.int z)) ((Int32.add_zero _).trans qe.symm)) (ksS (by first | rfl | exact congrArg (fun z => some (Value.int z)) qe.symm | exact congrArg (fun z => some (Value.int z)) ((Int32.add_zero _).trans qe.symm)) (ksS (by first | rfl | exact congrArg (fun z => some (Value.int z)) qe.symm | exact congrArg (fun z => some (Value.int z)) ((Int32.add_zero _).trans qe.symm)) (ksS (by first | rfl | exact congrArg (fun z => some (Value.int z)) qe.symm | exact congrArg (fun z => some (Value.int z)) ((Int32.add_zero _).trans qe.symm)) ksN))))
  · have hS : kheld a p0 = (-1000001, kF a 1) := if_pos ((kIn_n h1))
    refine kv_aload_n dX12_held_7 rfl ?_
    refine kv_ldc dX12_held_8 kX12_83 ?_
    refine kw_Vi [_] mX12_finding dX12_held_10 lX12_84 wX12_finding kC12 hu rfl (by first | rfl | assumption) rfl rfl rfl (qX12_finding (by exact hu) 1 (by decide) (by decide) _ (by decide)) (by decide) ?_
    exact kv_iret dX12_held_13 rfl (by rw [hS]; exact kOM.no hm hu rfl)

theorem kposition_ok {a : KA} (ho : kOk a) (p0 p1 : Int32) : kOk (kposition a p0 p1).2 := by
  unfold kposition
  split
  · exact ho.fnd 1
  · exact ho
theorem kheld_ok {a : KA} (ho : kOk a) (p0 : Int32) : kOk (kheld a p0).2 := by
  unfold kheld
  split
  · exact ho.fnd 1
  · exact ho
