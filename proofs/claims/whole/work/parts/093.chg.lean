/-! CHANGES OF `now`, ONE LEMMA A CHANGE: the store holds the new numbers (kRS), the ranges stand (kGI) -/
theorem kv_si_n {u : KMem} {a k b j : Nat} {x : Int32} (h : ¬ (b = a ∧ j = k)) : (kv_si u a k x).2.1 b j = u.2.1 b j := by
  by_cases q : b = a
  · subst q; exact kv_si_k (fun z => h ⟨rfl, z⟩)
  · exact kv_si_a q
theorem kDep_c {f f' : Nat → Int32} : ∀ {n : Nat}, (∀ k, k < n → f' k = f k) → kDep f' n = kDep f n
  | 0, _ => rfl
  | n + 1, h => by
    unfold kDep
    rw [kDep_c (n := n) (fun k hk => h k (by omega)), h n (by omega)]
theorem kGI.rate_ {g g' : Nat → Int32} (hg : kGI g) {j : Nat} (hj : j < 7) (E : ∀ i, ¬ (i = 8 + j) → g' i = g i) (hp : ∀ n, kTop[j]? = some n → kUp (g' (8 + j)) n) : kGI g' := by
  have n0 := (hg.cnt (k := 0) rfl).2
  have n1 := (hg.cnt (k := 1) rfl).2
  have n2 := (hg.cnt (k := 2) rfl).2
  have n3 := (hg.cnt (k := 3) rfl).2
  have n4 := (hg.cnt (k := 4) rfl).2
  have n5 := (hg.cnt (k := 5) rfl).2
  have n6 := (hg.cnt (k := 6) rfl).2
  have N0 : kN g' 0 = kN g 0 := kc_N (E 0 (by omega))
  have N1 : kN g' 1 = kN g 1 := kc_N (E 1 (by omega))
  have N2 : kN g' 2 = kN g 2 := kc_N (E 2 (by omega))
  have N3 : kN g' 3 = kN g 3 := kc_N (E 3 (by omega))
  have N4 : kN g' 4 = kN g 4 := kc_N (E 4 (by omega))
  have N5 : kN g' 5 = kN g 5 := kc_N (E 5 (by omega))
  have N6 : kN g' 6 = kN g 6 := kc_N (E 6 (by omega))
  have L0 : kN g 0 ≤ kN g' 0 := by omega
  have L1 : kN g 1 ≤ kN g' 1 := by omega
  have L2 : kN g 2 ≤ kN g' 2 := by omega
  obtain ⟨h1, h2, h3, h4, h5, h6, h7, h8, h9⟩ := hg
  refine ⟨fun k n hk => ?_, fun k n hk => ?_, fun z hz t n ht => ?_, fun d hd => ?_, fun s hs => ?_, fun x hx => ?_, fun t ht => ?_, fun e he => ?_, fun k hk => ?_⟩
  · have hl : k < 7 := (List.getElem?_eq_some_iff.mp hk).1
    rw [E _ (by omega)]; exact h1 k n hk
  · have hl : k < 7 := (List.getElem?_eq_some_iff.mp hk).1
    by_cases q : k = j
    · rw [q] at hk ⊢; exact hp n hk
    · rw [E _ (by omega)]; exact h2 k n hk
  · have hl : t < 3 := (List.getElem?_eq_some_iff.mp ht).1
    rw [E _ (by omega)]; exact h3 z hz t n ht
  · rw [N0] at hd
    obtain ⟨c0, c1, c2, c3, c4, c5⟩ := h4 d (by omega)
    exact ⟨by rw [E _ (by omega)]; exact c0, by rw [E _ (by omega)]; exact c1, by rw [E _ (by omega)]; exact c2, by rw [E _ (by omega)]; exact c3, by rw [E _ (by omega)]; exact c4, fun m hm => by rw [E _ (by omega)]; exact c5 m hm⟩
  · rw [N1] at hs
    obtain ⟨s0, s1, s2⟩ := h5 s (by omega)
    exact ⟨by rw [E _ (by omega)]; exact s0, by rw [E _ (by omega)]; exact s1, by rw [E _ (by omega)]; exact s2⟩
  · rw [N2] at hx
    obtain ⟨x0, x1, x2, x3, x4⟩ := h6 x (by omega)
    exact ⟨fun s hs => by rw [E _ (by omega)]; obtain ⟨c, q1, q2⟩ := x0 s hs; exact ⟨c, by omega, q2⟩, by rw [E _ (by omega)]; exact x1, by rw [E _ (by omega)]; exact x2, by rw [E _ (by omega)]; exact x3, fun s hs => by rw [E _ (by omega)]; obtain ⟨c, q1, q2⟩ := x4 s hs; exact ⟨c, Nat.lt_of_lt_of_le q1 (Nat.pow_le_pow_right (by decide) L1), q2⟩⟩
  · rw [N3] at ht
    obtain ⟨t0, t1, t2, t3⟩ := h7 t (by omega)
    have t4 := (t2.n (by omega)).2
    refine ⟨by rw [E _ (by omega)]; exact t0, by rw [E _ (by omega)]; exact t1, by rw [E _ (by omega)]; exact t2, ?_⟩
    rw [kc_N (E (468 + 66 * t + 2) (by omega)), kDep_c (f := fun k => g (468 + 66 * t + 3 + k)) (fun k hk => E _ (by unfold kN at hk; omega))]
    exact t3
  · rw [N4] at he
    obtain ⟨e0, e1, e2, e3, e4⟩ := h8 e (by omega)
    exact ⟨by rw [E _ (by omega)]; obtain ⟨c, q1, q2⟩ := e0; exact ⟨c, by omega, q2⟩, by rw [E _ (by omega)]; exact e1, by rw [E _ (by omega)]; exact e2, by rw [E _ (by omega)]; exact e3, by rw [E _ (by omega)]; exact e4⟩
  · rw [N5] at hk
    rw [E _ (by omega)]; exact h9 k (by omega)

theorem kGI.draw_ {g g' : Nat → Int32} (hg : kGI g)  (E : ∀ i, ¬ (i = 7) → g' i = g i)  : kGI g' := by
  have n0 := (hg.cnt (k := 0) rfl).2
  have n1 := (hg.cnt (k := 1) rfl).2
  have n2 := (hg.cnt (k := 2) rfl).2
  have n3 := (hg.cnt (k := 3) rfl).2
  have n4 := (hg.cnt (k := 4) rfl).2
  have n5 := (hg.cnt (k := 5) rfl).2
  have n6 := (hg.cnt (k := 6) rfl).2
  have N0 : kN g' 0 = kN g 0 := kc_N (E 0 (by omega))
  have N1 : kN g' 1 = kN g 1 := kc_N (E 1 (by omega))
  have N2 : kN g' 2 = kN g 2 := kc_N (E 2 (by omega))
  have N3 : kN g' 3 = kN g 3 := kc_N (E 3 (by omega))
  have N4 : kN g' 4 = kN g 4 := kc_N (E 4 (by omega))
  have N5 : kN g' 5 = kN g 5 := kc_N (E 5 (by omega))
  have N6 : kN g' 6 = kN g 6 := kc_N (E 6 (by omega))
  have L0 : kN g 0 ≤ kN g' 0 := by omega
  have L1 : kN g 1 ≤ kN g' 1 := by omega
  have L2 : kN g 2 ≤ kN g' 2 := by omega
  obtain ⟨h1, h2, h3, h4, h5, h6, h7, h8, h9⟩ := hg
  refine ⟨fun k n hk => ?_, fun k n hk => ?_, fun z hz t n ht => ?_, fun d hd => ?_, fun s hs => ?_, fun x hx => ?_, fun t ht => ?_, fun e he => ?_, fun k hk => ?_⟩
  · have hl : k < 7 := (List.getElem?_eq_some_iff.mp hk).1
    rw [E _ (by omega)]; exact h1 k n hk
  · have hl : k < 7 := (List.getElem?_eq_some_iff.mp hk).1
    rw [E _ (by omega)]; exact h2 k n hk
  · have hl : t < 3 := (List.getElem?_eq_some_iff.mp ht).1
    rw [E _ (by omega)]; exact h3 z hz t n ht
  · rw [N0] at hd
    obtain ⟨c0, c1, c2, c3, c4, c5⟩ := h4 d (by omega)
    exact ⟨by rw [E _ (by omega)]; exact c0, by rw [E _ (by omega)]; exact c1, by rw [E _ (by omega)]; exact c2, by rw [E _ (by omega)]; exact c3, by rw [E _ (by omega)]; exact c4, fun m hm => by rw [E _ (by omega)]; exact c5 m hm⟩
  · rw [N1] at hs
    obtain ⟨s0, s1, s2⟩ := h5 s (by omega)
    exact ⟨by rw [E _ (by omega)]; exact s0, by rw [E _ (by omega)]; exact s1, by rw [E _ (by omega)]; exact s2⟩
  · rw [N2] at hx
    obtain ⟨x0, x1, x2, x3, x4⟩ := h6 x (by omega)
    exact ⟨fun s hs => by rw [E _ (by omega)]; obtain ⟨c, q1, q2⟩ := x0 s hs; exact ⟨c, by omega, q2⟩, by rw [E _ (by omega)]; exact x1, by rw [E _ (by omega)]; exact x2, by rw [E _ (by omega)]; exact x3, fun s hs => by rw [E _ (by omega)]; obtain ⟨c, q1, q2⟩ := x4 s hs; exact ⟨c, Nat.lt_of_lt_of_le q1 (Nat.pow_le_pow_right (by decide) L1), q2⟩⟩
  · rw [N3] at ht
    obtain ⟨t0, t1, t2, t3⟩ := h7 t (by omega)
    have t4 := (t2.n (by omega)).2
    refine ⟨by rw [E _ (by omega)]; exact t0, by rw [E _ (by omega)]; exact t1, by rw [E _ (by omega)]; exact t2, ?_⟩
    rw [kc_N (E (468 + 66 * t + 2) (by omega)), kDep_c (f := fun k => g (468 + 66 * t + 3 + k)) (fun k hk => E _ (by unfold kN at hk; omega))]
    exact t3
  · rw [N4] at he
    obtain ⟨e0, e1, e2, e3, e4⟩ := h8 e (by omega)
    exact ⟨by rw [E _ (by omega)]; obtain ⟨c, q1, q2⟩ := e0; exact ⟨c, by omega, q2⟩, by rw [E _ (by omega)]; exact e1, by rw [E _ (by omega)]; exact e2, by rw [E _ (by omega)]; exact e3, by rw [E _ (by omega)]; exact e4⟩
  · rw [N5] at hk
    rw [E _ (by omega)]; exact h9 k (by omega)

theorem kRS.zone_ {g g' : Nat → Int32} {u v : KMem} (h : kRS 1 g u) (hg : kGI g) {z0 t0 : Nat} (hz0 : z0 < 8) (ht0 : t0 < 3) (E : ∀ i, ¬ (i = 16 + 3 * z0 + t0) → g' i = g i) (V : ∀ b k, ¬ (b = 9 ∧ k = 8 * t0 + z0) → v.2.1 b k = u.2.1 b k) (hp : v.2.1 9 (8 * t0 + z0) = g' (16 + 3 * z0 + t0)) : kRS 1 g' v := by
  have n0 := (hg.cnt (k := 0) rfl).2
  have n1 := (hg.cnt (k := 1) rfl).2
  have n2 := (hg.cnt (k := 2) rfl).2
  have n3 := (hg.cnt (k := 3) rfl).2
  have n4 := (hg.cnt (k := 4) rfl).2
  have n5 := (hg.cnt (k := 5) rfl).2
  have n6 := (hg.cnt (k := 6) rfl).2
  have N0 : kN g' 0 = kN g 0 := kc_N (E 0 (by omega))
  have N1 : kN g' 1 = kN g 1 := kc_N (E 1 (by omega))
  have N2 : kN g' 2 = kN g 2 := kc_N (E 2 (by omega))
  have N3 : kN g' 3 = kN g 3 := kc_N (E 3 (by omega))
  have N4 : kN g' 4 = kN g 4 := kc_N (E 4 (by omega))
  have N5 : kN g' 5 = kN g 5 := kc_N (E 5 (by omega))
  have N6 : kN g' 6 = kN g 6 := kc_N (E 6 (by omega))
  obtain ⟨⟨a0, a1, a2, a3, a4, a5, a6, a7⟩, h2, h3, h4, h5, h6, h7, h8, h9, h10⟩ := h
  refine ⟨⟨by rw [V _ _ (by omega), E _ (by omega)]; exact a0, by rw [V _ _ (by omega), E _ (by omega)]; exact a1, by rw [V _ _ (by omega), E _ (by omega)]; exact a2, by rw [V _ _ (by omega), E _ (by omega)]; exact a3, by rw [V _ _ (by omega), E _ (by omega)]; exact a4, by rw [V _ _ (by omega), E _ (by omega)]; exact a5, by rw [V _ _ (by omega), E _ (by omega)]; exact a6, by rw [V _ _ (by omega), E _ (by omega)]; exact a7⟩, fun k hk => ?_, fun z hz t ht => ?_, fun d hd => ?_, fun i hi => ?_, fun x hx => ?_, fun t ht => ?_, fun e he => ?_, fun k hk => ?_, fun k hk => ?_⟩
  · rw [V _ _ (by omega), E _ (by omega)]; exact h2 k hk
  · by_cases q : z = z0 ∧ t = t0
    · rw [q.1, q.2]; exact hp
    · rw [V _ _ (by omega), E _ (by omega)]; exact h3 z hz t ht
  · rw [N0] at hd
    exact kc_cars (h4 d (by omega)) (fun f hf => E _ (by omega)) (fun b k q1 q2 => V b k (by omega))
  · rw [N1] at hi
    exact kc_shape (h5 i (by omega)) (fun f hf => E _ (by omega)) (fun b q1 q2 => V b i (by omega))
  · rw [N2] at hx
    have hx2 : x < kN g 2 := by omega
    have o0 := (hg.carOf hx2 (s := 0) (by omega)).2
    have o1 := (hg.carOf hx2 (s := 1) (by omega)).2
    refine kc_crash (h6 x hx2) (fun f hf => E _ (by omega)) (fun s hs => ?_) (fun b k q1 q2 => V b k (by omega))
    have o2 := (hg.carOf hx2 hs).2
    exact E _ (by omega)
  · rw [N3] at ht
    have ht2 : t < kN g 3 := by omega
    exact kc_treaty (h7 t ht2) ((hg.2.2.2.2.2.2.1 t ht2).2.2.1.n (by omega)).2 (fun f hf => E _ (by omega)) (fun b k q1 q2 => V b k (by omega))
  · rw [N4] at he
    exact kc_entry (h8 e (by omega)) (fun i hi f hf => E _ (by omega)) (fun k => V _ k (by omega))
  · rw [N5] at hk
    rw [V _ _ (by omega), E _ (by omega)]; exact h9 k (by omega)
  · rw [N6] at hk
    rw [V _ _ (by omega), E _ (by omega)]; exact h10 k (by omega)

theorem kGI.zone_ {g g' : Nat → Int32} (hg : kGI g) {z0 t0 : Nat} (hz0 : z0 < 8) (ht0 : t0 < 3) (E : ∀ i, ¬ (i = 16 + 3 * z0 + t0) → g' i = g i) (hp : ∀ n, kZt[t0]? = some n → kUp (g' (16 + 3 * z0 + t0)) n) : kGI g' := by
  have n0 := (hg.cnt (k := 0) rfl).2
  have n1 := (hg.cnt (k := 1) rfl).2
  have n2 := (hg.cnt (k := 2) rfl).2
  have n3 := (hg.cnt (k := 3) rfl).2
  have n4 := (hg.cnt (k := 4) rfl).2
  have n5 := (hg.cnt (k := 5) rfl).2
  have n6 := (hg.cnt (k := 6) rfl).2
  have N0 : kN g' 0 = kN g 0 := kc_N (E 0 (by omega))
  have N1 : kN g' 1 = kN g 1 := kc_N (E 1 (by omega))
  have N2 : kN g' 2 = kN g 2 := kc_N (E 2 (by omega))
  have N3 : kN g' 3 = kN g 3 := kc_N (E 3 (by omega))
  have N4 : kN g' 4 = kN g 4 := kc_N (E 4 (by omega))
  have N5 : kN g' 5 = kN g 5 := kc_N (E 5 (by omega))
  have N6 : kN g' 6 = kN g 6 := kc_N (E 6 (by omega))
  have L0 : kN g 0 ≤ kN g' 0 := by omega
  have L1 : kN g 1 ≤ kN g' 1 := by omega
  have L2 : kN g 2 ≤ kN g' 2 := by omega
  obtain ⟨h1, h2, h3, h4, h5, h6, h7, h8, h9⟩ := hg
  refine ⟨fun k n hk => ?_, fun k n hk => ?_, fun z hz t n ht => ?_, fun d hd => ?_, fun s hs => ?_, fun x hx => ?_, fun t ht => ?_, fun e he => ?_, fun k hk => ?_⟩
  · have hl : k < 7 := (List.getElem?_eq_some_iff.mp hk).1
    rw [E _ (by omega)]; exact h1 k n hk
  · have hl : k < 7 := (List.getElem?_eq_some_iff.mp hk).1
    rw [E _ (by omega)]; exact h2 k n hk
  · have hl : t < 3 := (List.getElem?_eq_some_iff.mp ht).1
    by_cases q : z = z0 ∧ t = t0
    · rw [q.2] at ht; rw [q.1, q.2]; exact hp n ht
    · rw [E _ (by omega)]; exact h3 z hz t n ht
  · rw [N0] at hd
    obtain ⟨c0, c1, c2, c3, c4, c5⟩ := h4 d (by omega)
    exact ⟨by rw [E _ (by omega)]; exact c0, by rw [E _ (by omega)]; exact c1, by rw [E _ (by omega)]; exact c2, by rw [E _ (by omega)]; exact c3, by rw [E _ (by omega)]; exact c4, fun m hm => by rw [E _ (by omega)]; exact c5 m hm⟩
  · rw [N1] at hs
    obtain ⟨s0, s1, s2⟩ := h5 s (by omega)
    exact ⟨by rw [E _ (by omega)]; exact s0, by rw [E _ (by omega)]; exact s1, by rw [E _ (by omega)]; exact s2⟩
  · rw [N2] at hx
    obtain ⟨x0, x1, x2, x3, x4⟩ := h6 x (by omega)
    exact ⟨fun s hs => by rw [E _ (by omega)]; obtain ⟨c, q1, q2⟩ := x0 s hs; exact ⟨c, by omega, q2⟩, by rw [E _ (by omega)]; exact x1, by rw [E _ (by omega)]; exact x2, by rw [E _ (by omega)]; exact x3, fun s hs => by rw [E _ (by omega)]; obtain ⟨c, q1, q2⟩ := x4 s hs; exact ⟨c, Nat.lt_of_lt_of_le q1 (Nat.pow_le_pow_right (by decide) L1), q2⟩⟩
  · rw [N3] at ht
    obtain ⟨t0, t1, t2, t3⟩ := h7 t (by omega)
    have t4 := (t2.n (by omega)).2
    refine ⟨by rw [E _ (by omega)]; exact t0, by rw [E _ (by omega)]; exact t1, by rw [E _ (by omega)]; exact t2, ?_⟩
    rw [kc_N (E (468 + 66 * t + 2) (by omega)), kDep_c (f := fun k => g (468 + 66 * t + 3 + k)) (fun k hk => E _ (by unfold kN at hk; omega))]
    exact t3
  · rw [N4] at he
    obtain ⟨e0, e1, e2, e3, e4⟩ := h8 e (by omega)
    exact ⟨by rw [E _ (by omega)]; obtain ⟨c, q1, q2⟩ := e0; exact ⟨c, by omega, q2⟩, by rw [E _ (by omega)]; exact e1, by rw [E _ (by omega)]; exact e2, by rw [E _ (by omega)]; exact e3, by rw [E _ (by omega)]; exact e4⟩
  · rw [N5] at hk
    rw [E _ (by omega)]; exact h9 k (by omega)

theorem kRS.tells {g g' : Nat → Int32} {u v : KMem} (h : kRS 1 g u) (hg : kGI g) {x0 s0 : Nat} (hx0 : x0 < kN g 2) (hs0 : s0 < 2) (E : ∀ i, ¬ (i = 328 + 7 * x0 + (5 + s0)) → g' i = g i) (V : ∀ b k, ¬ (b = 1 + (72 + 3 * x0 + 2) ∧ k = s0) → v.2.1 b k = u.2.1 b k) (hp : v.2.1 (1 + (72 + 3 * x0 + 2)) s0 = g' (328 + 7 * x0 + (5 + s0))) : kRS 1 g' v := by
  have n0 := (hg.cnt (k := 0) rfl).2
  have n1 := (hg.cnt (k := 1) rfl).2
  have n2 := (hg.cnt (k := 2) rfl).2
  have n3 := (hg.cnt (k := 3) rfl).2
  have n4 := (hg.cnt (k := 4) rfl).2
  have n5 := (hg.cnt (k := 5) rfl).2
  have n6 := (hg.cnt (k := 6) rfl).2
  have N0 : kN g' 0 = kN g 0 := kc_N (E 0 (by omega))
  have N1 : kN g' 1 = kN g 1 := kc_N (E 1 (by omega))
  have N2 : kN g' 2 = kN g 2 := kc_N (E 2 (by omega))
  have N3 : kN g' 3 = kN g 3 := kc_N (E 3 (by omega))
  have N4 : kN g' 4 = kN g 4 := kc_N (E 4 (by omega))
  have N5 : kN g' 5 = kN g 5 := kc_N (E 5 (by omega))
  have N6 : kN g' 6 = kN g 6 := kc_N (E 6 (by omega))
  obtain ⟨⟨a0, a1, a2, a3, a4, a5, a6, a7⟩, h2, h3, h4, h5, h6, h7, h8, h9, h10⟩ := h
  refine ⟨⟨by rw [V _ _ (by omega), E _ (by omega)]; exact a0, by rw [V _ _ (by omega), E _ (by omega)]; exact a1, by rw [V _ _ (by omega), E _ (by omega)]; exact a2, by rw [V _ _ (by omega), E _ (by omega)]; exact a3, by rw [V _ _ (by omega), E _ (by omega)]; exact a4, by rw [V _ _ (by omega), E _ (by omega)]; exact a5, by rw [V _ _ (by omega), E _ (by omega)]; exact a6, by rw [V _ _ (by omega), E _ (by omega)]; exact a7⟩, fun k hk => ?_, fun z hz t ht => ?_, fun d hd => ?_, fun i hi => ?_, fun x hx => ?_, fun t ht => ?_, fun e he => ?_, fun k hk => ?_, fun k hk => ?_⟩
  · rw [V _ _ (by omega), E _ (by omega)]; exact h2 k hk
  · rw [V _ _ (by omega), E _ (by omega)]; exact h3 z hz t ht
  · rw [N0] at hd
    exact kc_cars (h4 d (by omega)) (fun f hf => E _ (by omega)) (fun b k q1 q2 => V b k (by omega))
  · rw [N1] at hi
    exact kc_shape (h5 i (by omega)) (fun f hf => E _ (by omega)) (fun b q1 q2 => V b i (by omega))
  · rw [N2] at hx
    by_cases q : x = x0
    · subst q
      have o0 := (hg.carOf hx (s := 0) (by omega)).2
      have o1 := (hg.carOf hx (s := 1) (by omega)).2
      obtain ⟨b1, b2, b3, b4, b5⟩ := h6 x hx
      refine ⟨fun q hq => ?_, fun q hq => ?_, ?_, ?_, ?_⟩
      · rw [V _ _ (by omega), E _ (by omega)]; exact b1 q hq
      · by_cases z : q = s0
        · rw [z]; exact hp
        · rw [V _ _ (by omega), E _ (by omega)]; exact b2 q hq
      · rw [V _ _ (by omega), E _ (by omega)]; exact b3
      · rw [V _ _ (by omega), E _ (by omega)]; exact b4
      · rw [V _ _ (by omega), kc_fr2 (fun f hf => E _ (by omega)) (fun s hs => E _ (by have o2 := (hg.carOf hx hs).2; omega))]; exact b5
    · have hx2 : x < kN g 2 := by omega
      have o0 := (hg.carOf hx2 (s := 0) (by omega)).2
      have o1 := (hg.carOf hx2 (s := 1) (by omega)).2
      refine kc_crash (h6 x hx2) (fun f hf => E _ (by omega)) (fun s hs => ?_) (fun b k q1 q2 => V b k (by omega))
      have o2 := (hg.carOf hx2 hs).2
      exact E _ (by omega)
  · rw [N3] at ht
    have ht2 : t < kN g 3 := by omega
    exact kc_treaty (h7 t ht2) ((hg.2.2.2.2.2.2.1 t ht2).2.2.1.n (by omega)).2 (fun f hf => E _ (by omega)) (fun b k q1 q2 => V b k (by omega))
  · rw [N4] at he
    exact kc_entry (h8 e (by omega)) (fun i hi f hf => E _ (by omega)) (fun k => V _ k (by omega))
  · rw [N5] at hk
    rw [V _ _ (by omega), E _ (by omega)]; exact h9 k (by omega)
  · rw [N6] at hk
    rw [V _ _ (by omega), E _ (by omega)]; exact h10 k (by omega)

theorem kGI.tells {g g' : Nat → Int32} (hg : kGI g) {x0 s0 : Nat} (hx0 : x0 < kN g 2) (hs0 : s0 < 2) (E : ∀ i, ¬ (i = 328 + 7 * x0 + (5 + s0)) → g' i = g i) (hp : ∃ n, n < 2 ^ kN g 1 ∧ g' (328 + 7 * x0 + (5 + s0)) = nI n) : kGI g' := by
  have n0 := (hg.cnt (k := 0) rfl).2
  have n1 := (hg.cnt (k := 1) rfl).2
  have n2 := (hg.cnt (k := 2) rfl).2
  have n3 := (hg.cnt (k := 3) rfl).2
  have n4 := (hg.cnt (k := 4) rfl).2
  have n5 := (hg.cnt (k := 5) rfl).2
  have n6 := (hg.cnt (k := 6) rfl).2
  have N0 : kN g' 0 = kN g 0 := kc_N (E 0 (by omega))
  have N1 : kN g' 1 = kN g 1 := kc_N (E 1 (by omega))
  have N2 : kN g' 2 = kN g 2 := kc_N (E 2 (by omega))
  have N3 : kN g' 3 = kN g 3 := kc_N (E 3 (by omega))
  have N4 : kN g' 4 = kN g 4 := kc_N (E 4 (by omega))
  have N5 : kN g' 5 = kN g 5 := kc_N (E 5 (by omega))
  have N6 : kN g' 6 = kN g 6 := kc_N (E 6 (by omega))
  have L0 : kN g 0 ≤ kN g' 0 := by omega
  have L1 : kN g 1 ≤ kN g' 1 := by omega
  have L2 : kN g 2 ≤ kN g' 2 := by omega
  obtain ⟨h1, h2, h3, h4, h5, h6, h7, h8, h9⟩ := hg
  refine ⟨fun k n hk => ?_, fun k n hk => ?_, fun z hz t n ht => ?_, fun d hd => ?_, fun s hs => ?_, fun x hx => ?_, fun t ht => ?_, fun e he => ?_, fun k hk => ?_⟩
  · have hl : k < 7 := (List.getElem?_eq_some_iff.mp hk).1
    rw [E _ (by omega)]; exact h1 k n hk
  · have hl : k < 7 := (List.getElem?_eq_some_iff.mp hk).1
    rw [E _ (by omega)]; exact h2 k n hk
  · have hl : t < 3 := (List.getElem?_eq_some_iff.mp ht).1
    rw [E _ (by omega)]; exact h3 z hz t n ht
  · rw [N0] at hd
    obtain ⟨c0, c1, c2, c3, c4, c5⟩ := h4 d (by omega)
    exact ⟨by rw [E _ (by omega)]; exact c0, by rw [E _ (by omega)]; exact c1, by rw [E _ (by omega)]; exact c2, by rw [E _ (by omega)]; exact c3, by rw [E _ (by omega)]; exact c4, fun m hm => by rw [E _ (by omega)]; exact c5 m hm⟩
  · rw [N1] at hs
    obtain ⟨s0, s1, s2⟩ := h5 s (by omega)
    exact ⟨by rw [E _ (by omega)]; exact s0, by rw [E _ (by omega)]; exact s1, by rw [E _ (by omega)]; exact s2⟩
  · rw [N2] at hx
    by_cases q : x = x0
    · subst q
      obtain ⟨x0, x1, x2, x3, x4⟩ := h6 x hx
      refine ⟨fun s hs => by rw [E _ (by omega), N0]; exact x0 s hs, by rw [E _ (by omega)]; exact x1, by rw [E _ (by omega)]; exact x2, by rw [E _ (by omega)]; exact x3, fun s hs => ?_⟩
      by_cases z : s = s0
      · rw [z, N1]; exact hp
      · rw [E _ (by omega), N1]; exact x4 s hs
    · obtain ⟨x0, x1, x2, x3, x4⟩ := h6 x (by omega)
      exact ⟨fun s hs => by rw [E _ (by omega)]; obtain ⟨c, q1, q2⟩ := x0 s hs; exact ⟨c, by omega, q2⟩, by rw [E _ (by omega)]; exact x1, by rw [E _ (by omega)]; exact x2, by rw [E _ (by omega)]; exact x3, fun s hs => by rw [E _ (by omega)]; obtain ⟨c, q1, q2⟩ := x4 s hs; exact ⟨c, Nat.lt_of_lt_of_le q1 (Nat.pow_le_pow_right (by decide) L1), q2⟩⟩
  · rw [N3] at ht
    obtain ⟨t0, t1, t2, t3⟩ := h7 t (by omega)
    have t4 := (t2.n (by omega)).2
    refine ⟨by rw [E _ (by omega)]; exact t0, by rw [E _ (by omega)]; exact t1, by rw [E _ (by omega)]; exact t2, ?_⟩
    rw [kc_N (E (468 + 66 * t + 2) (by omega)), kDep_c (f := fun k => g (468 + 66 * t + 3 + k)) (fun k hk => E _ (by unfold kN at hk; omega))]
    exact t3
  · rw [N4] at he
    obtain ⟨e0, e1, e2, e3, e4⟩ := h8 e (by omega)
    exact ⟨by rw [E _ (by omega)]; obtain ⟨c, q1, q2⟩ := e0; exact ⟨c, by omega, q2⟩, by rw [E _ (by omega)]; exact e1, by rw [E _ (by omega)]; exact e2, by rw [E _ (by omega)]; exact e3, by rw [E _ (by omega)]; exact e4⟩
  · rw [N5] at hk
    rw [E _ (by omega)]; exact h9 k (by omega)

theorem kRS.tell_ {g g' : Nat → Int32} {u v : KMem} (h : kRS 1 g u) (hg : kGI g) (hn : kN g 6 < 33) (E : ∀ i, ¬ (i = 6 ∨ i = 1388 + kN g 6) → g' i = g i) (V : ∀ b k, ¬ ((b = 1 ∧ k = 17) ∨ (b = 12 ∧ k = kN g 6)) → v.2.1 b k = u.2.1 b k) (C6 : v.2.1 1 17 = g' 6) (cn6 : kN g' 6 = kN g 6 + 1) (hp : v.2.1 12 (kN g 6) = g' (1388 + kN g 6)) : kRS 1 g' v := by
  have n0 := (hg.cnt (k := 0) rfl).2
  have n1 := (hg.cnt (k := 1) rfl).2
  have n2 := (hg.cnt (k := 2) rfl).2
  have n3 := (hg.cnt (k := 3) rfl).2
  have n4 := (hg.cnt (k := 4) rfl).2
  have n5 := (hg.cnt (k := 5) rfl).2
  have n6 := (hg.cnt (k := 6) rfl).2
  have N0 : kN g' 0 = kN g 0 := kc_N (E 0 (by omega))
  have N1 : kN g' 1 = kN g 1 := kc_N (E 1 (by omega))
  have N2 : kN g' 2 = kN g 2 := kc_N (E 2 (by omega))
  have N3 : kN g' 3 = kN g 3 := kc_N (E 3 (by omega))
  have N4 : kN g' 4 = kN g 4 := kc_N (E 4 (by omega))
  have N5 : kN g' 5 = kN g 5 := kc_N (E 5 (by omega))
  have N6 := cn6
  obtain ⟨⟨a0, a1, a2, a3, a4, a5, a6, a7⟩, h2, h3, h4, h5, h6, h7, h8, h9, h10⟩ := h
  refine ⟨⟨by rw [V _ _ (by omega), E _ (by omega)]; exact a0, by rw [V _ _ (by omega), E _ (by omega)]; exact a1, by rw [V _ _ (by omega), E _ (by omega)]; exact a2, by rw [V _ _ (by omega), E _ (by omega)]; exact a3, by rw [V _ _ (by omega), E _ (by omega)]; exact a4, by rw [V _ _ (by omega), E _ (by omega)]; exact a5, C6, by rw [V _ _ (by omega), E _ (by omega)]; exact a7⟩, fun k hk => ?_, fun z hz t ht => ?_, fun d hd => ?_, fun i hi => ?_, fun x hx => ?_, fun t ht => ?_, fun e he => ?_, fun k hk => ?_, fun k hk => ?_⟩
  · rw [V _ _ (by omega), E _ (by omega)]; exact h2 k hk
  · rw [V _ _ (by omega), E _ (by omega)]; exact h3 z hz t ht
  · rw [N0] at hd
    exact kc_cars (h4 d (by omega)) (fun f hf => E _ (by omega)) (fun b k q1 q2 => V b k (by omega))
  · rw [N1] at hi
    exact kc_shape (h5 i (by omega)) (fun f hf => E _ (by omega)) (fun b q1 q2 => V b i (by omega))
  · rw [N2] at hx
    have hx2 : x < kN g 2 := by omega
    have o0 := (hg.carOf hx2 (s := 0) (by omega)).2
    have o1 := (hg.carOf hx2 (s := 1) (by omega)).2
    refine kc_crash (h6 x hx2) (fun f hf => E _ (by omega)) (fun s hs => ?_) (fun b k q1 q2 => V b k (by omega))
    have o2 := (hg.carOf hx2 hs).2
    exact E _ (by omega)
  · rw [N3] at ht
    have ht2 : t < kN g 3 := by omega
    exact kc_treaty (h7 t ht2) ((hg.2.2.2.2.2.2.1 t ht2).2.2.1.n (by omega)).2 (fun f hf => E _ (by omega)) (fun b k q1 q2 => V b k (by omega))
  · rw [N4] at he
    exact kc_entry (h8 e (by omega)) (fun i hi f hf => E _ (by omega)) (fun k => V _ k (by omega))
  · rw [N5] at hk
    rw [V _ _ (by omega), E _ (by omega)]; exact h9 k (by omega)
  · rw [N6] at hk
    by_cases q : k = kN g 6
    · subst q; exact hp
    · rw [V _ _ (by omega), E _ (by omega)]; exact h10 k (by omega)

theorem kGI.tell_ {g g' : Nat → Int32} (hg : kGI g) (hn : kN g 6 < 33) (E : ∀ i, ¬ (i = 6 ∨ i = 1388 + kN g 6) → g' i = g i) (U6 : kUp (g' 6) 33) (cn6 : kN g' 6 = kN g 6 + 1)  : kGI g' := by
  have n0 := (hg.cnt (k := 0) rfl).2
  have n1 := (hg.cnt (k := 1) rfl).2
  have n2 := (hg.cnt (k := 2) rfl).2
  have n3 := (hg.cnt (k := 3) rfl).2
  have n4 := (hg.cnt (k := 4) rfl).2
  have n5 := (hg.cnt (k := 5) rfl).2
  have n6 := (hg.cnt (k := 6) rfl).2
  have N0 : kN g' 0 = kN g 0 := kc_N (E 0 (by omega))
  have N1 : kN g' 1 = kN g 1 := kc_N (E 1 (by omega))
  have N2 : kN g' 2 = kN g 2 := kc_N (E 2 (by omega))
  have N3 : kN g' 3 = kN g 3 := kc_N (E 3 (by omega))
  have N4 : kN g' 4 = kN g 4 := kc_N (E 4 (by omega))
  have N5 : kN g' 5 = kN g 5 := kc_N (E 5 (by omega))
  have N6 := cn6
  have L0 : kN g 0 ≤ kN g' 0 := by omega
  have L1 : kN g 1 ≤ kN g' 1 := by omega
  have L2 : kN g 2 ≤ kN g' 2 := by omega
  obtain ⟨h1, h2, h3, h4, h5, h6, h7, h8, h9⟩ := hg
  refine ⟨fun k n hk => ?_, fun k n hk => ?_, fun z hz t n ht => ?_, fun d hd => ?_, fun s hs => ?_, fun x hx => ?_, fun t ht => ?_, fun e he => ?_, fun k hk => ?_⟩
  · have hl : k < 7 := (List.getElem?_eq_some_iff.mp hk).1
    by_cases q6 : k = 6
    · subst q6
      have hn : 33 = n := Option.some.inj (show some 33 = some n from hk)
      rw [← hn]; exact U6
    rw [E _ (by omega)]; exact h1 k n hk
  · have hl : k < 7 := (List.getElem?_eq_some_iff.mp hk).1
    rw [E _ (by omega)]; exact h2 k n hk
  · have hl : t < 3 := (List.getElem?_eq_some_iff.mp ht).1
    rw [E _ (by omega)]; exact h3 z hz t n ht
  · rw [N0] at hd
    obtain ⟨c0, c1, c2, c3, c4, c5⟩ := h4 d (by omega)
    exact ⟨by rw [E _ (by omega)]; exact c0, by rw [E _ (by omega)]; exact c1, by rw [E _ (by omega)]; exact c2, by rw [E _ (by omega)]; exact c3, by rw [E _ (by omega)]; exact c4, fun m hm => by rw [E _ (by omega)]; exact c5 m hm⟩
  · rw [N1] at hs
    obtain ⟨s0, s1, s2⟩ := h5 s (by omega)
    exact ⟨by rw [E _ (by omega)]; exact s0, by rw [E _ (by omega)]; exact s1, by rw [E _ (by omega)]; exact s2⟩
  · rw [N2] at hx
    obtain ⟨x0, x1, x2, x3, x4⟩ := h6 x (by omega)
    exact ⟨fun s hs => by rw [E _ (by omega)]; obtain ⟨c, q1, q2⟩ := x0 s hs; exact ⟨c, by omega, q2⟩, by rw [E _ (by omega)]; exact x1, by rw [E _ (by omega)]; exact x2, by rw [E _ (by omega)]; exact x3, fun s hs => by rw [E _ (by omega)]; obtain ⟨c, q1, q2⟩ := x4 s hs; exact ⟨c, Nat.lt_of_lt_of_le q1 (Nat.pow_le_pow_right (by decide) L1), q2⟩⟩
  · rw [N3] at ht
    obtain ⟨t0, t1, t2, t3⟩ := h7 t (by omega)
    have t4 := (t2.n (by omega)).2
    refine ⟨by rw [E _ (by omega)]; exact t0, by rw [E _ (by omega)]; exact t1, by rw [E _ (by omega)]; exact t2, ?_⟩
    rw [kc_N (E (468 + 66 * t + 2) (by omega)), kDep_c (f := fun k => g (468 + 66 * t + 3 + k)) (fun k hk => E _ (by unfold kN at hk; omega))]
    exact t3
  · rw [N4] at he
    obtain ⟨e0, e1, e2, e3, e4⟩ := h8 e (by omega)
    exact ⟨by rw [E _ (by omega)]; obtain ⟨c, q1, q2⟩ := e0; exact ⟨c, by omega, q2⟩, by rw [E _ (by omega)]; exact e1, by rw [E _ (by omega)]; exact e2, by rw [E _ (by omega)]; exact e3, by rw [E _ (by omega)]; exact e4⟩
  · rw [N5] at hk
    rw [E _ (by omega)]; exact h9 k (by omega)

theorem kRS.untell {g g' : Nat → Int32} {u v : KMem} (h : kRS 1 g u) (hg : kGI g)  (E : ∀ i, ¬ (i = 6) → g' i = g i) (V : ∀ b k, ¬ (b = 1 ∧ k = 17) → v.2.1 b k = u.2.1 b k) (C6 : v.2.1 1 17 = g' 6) (cn6 : kN g' 6 = 0)  : kRS 1 g' v := by
  have n0 := (hg.cnt (k := 0) rfl).2
  have n1 := (hg.cnt (k := 1) rfl).2
  have n2 := (hg.cnt (k := 2) rfl).2
  have n3 := (hg.cnt (k := 3) rfl).2
  have n4 := (hg.cnt (k := 4) rfl).2
  have n5 := (hg.cnt (k := 5) rfl).2
  have n6 := (hg.cnt (k := 6) rfl).2
  have N0 : kN g' 0 = kN g 0 := kc_N (E 0 (by omega))
  have N1 : kN g' 1 = kN g 1 := kc_N (E 1 (by omega))
  have N2 : kN g' 2 = kN g 2 := kc_N (E 2 (by omega))
  have N3 : kN g' 3 = kN g 3 := kc_N (E 3 (by omega))
  have N4 : kN g' 4 = kN g 4 := kc_N (E 4 (by omega))
  have N5 : kN g' 5 = kN g 5 := kc_N (E 5 (by omega))
  have N6 := cn6
  obtain ⟨⟨a0, a1, a2, a3, a4, a5, a6, a7⟩, h2, h3, h4, h5, h6, h7, h8, h9, h10⟩ := h
  refine ⟨⟨by rw [V _ _ (by omega), E _ (by omega)]; exact a0, by rw [V _ _ (by omega), E _ (by omega)]; exact a1, by rw [V _ _ (by omega), E _ (by omega)]; exact a2, by rw [V _ _ (by omega), E _ (by omega)]; exact a3, by rw [V _ _ (by omega), E _ (by omega)]; exact a4, by rw [V _ _ (by omega), E _ (by omega)]; exact a5, C6, by rw [V _ _ (by omega), E _ (by omega)]; exact a7⟩, fun k hk => ?_, fun z hz t ht => ?_, fun d hd => ?_, fun i hi => ?_, fun x hx => ?_, fun t ht => ?_, fun e he => ?_, fun k hk => ?_, fun k hk => ?_⟩
  · rw [V _ _ (by omega), E _ (by omega)]; exact h2 k hk
  · rw [V _ _ (by omega), E _ (by omega)]; exact h3 z hz t ht
  · rw [N0] at hd
    exact kc_cars (h4 d (by omega)) (fun f hf => E _ (by omega)) (fun b k q1 q2 => V b k (by omega))
  · rw [N1] at hi
    exact kc_shape (h5 i (by omega)) (fun f hf => E _ (by omega)) (fun b q1 q2 => V b i (by omega))
  · rw [N2] at hx
    have hx2 : x < kN g 2 := by omega
    have o0 := (hg.carOf hx2 (s := 0) (by omega)).2
    have o1 := (hg.carOf hx2 (s := 1) (by omega)).2
    refine kc_crash (h6 x hx2) (fun f hf => E _ (by omega)) (fun s hs => ?_) (fun b k q1 q2 => V b k (by omega))
    have o2 := (hg.carOf hx2 hs).2
    exact E _ (by omega)
  · rw [N3] at ht
    have ht2 : t < kN g 3 := by omega
    exact kc_treaty (h7 t ht2) ((hg.2.2.2.2.2.2.1 t ht2).2.2.1.n (by omega)).2 (fun f hf => E _ (by omega)) (fun b k q1 q2 => V b k (by omega))
  · rw [N4] at he
    exact kc_entry (h8 e (by omega)) (fun i hi f hf => E _ (by omega)) (fun k => V _ k (by omega))
  · rw [N5] at hk
    rw [V _ _ (by omega), E _ (by omega)]; exact h9 k (by omega)
  · rw [N6] at hk
    rw [V _ _ (by omega), E _ (by omega)]; exact h10 k (by omega)

theorem kGI.untell {g g' : Nat → Int32} (hg : kGI g)  (E : ∀ i, ¬ (i = 6) → g' i = g i) (U6 : kUp (g' 6) 33) (cn6 : kN g' 6 = 0)  : kGI g' := by
  have n0 := (hg.cnt (k := 0) rfl).2
  have n1 := (hg.cnt (k := 1) rfl).2
  have n2 := (hg.cnt (k := 2) rfl).2
  have n3 := (hg.cnt (k := 3) rfl).2
  have n4 := (hg.cnt (k := 4) rfl).2
  have n5 := (hg.cnt (k := 5) rfl).2
  have n6 := (hg.cnt (k := 6) rfl).2
  have N0 : kN g' 0 = kN g 0 := kc_N (E 0 (by omega))
  have N1 : kN g' 1 = kN g 1 := kc_N (E 1 (by omega))
  have N2 : kN g' 2 = kN g 2 := kc_N (E 2 (by omega))
  have N3 : kN g' 3 = kN g 3 := kc_N (E 3 (by omega))
  have N4 : kN g' 4 = kN g 4 := kc_N (E 4 (by omega))
  have N5 : kN g' 5 = kN g 5 := kc_N (E 5 (by omega))
  have N6 := cn6
  have L0 : kN g 0 ≤ kN g' 0 := by omega
  have L1 : kN g 1 ≤ kN g' 1 := by omega
  have L2 : kN g 2 ≤ kN g' 2 := by omega
  obtain ⟨h1, h2, h3, h4, h5, h6, h7, h8, h9⟩ := hg
  refine ⟨fun k n hk => ?_, fun k n hk => ?_, fun z hz t n ht => ?_, fun d hd => ?_, fun s hs => ?_, fun x hx => ?_, fun t ht => ?_, fun e he => ?_, fun k hk => ?_⟩
  · have hl : k < 7 := (List.getElem?_eq_some_iff.mp hk).1
    by_cases q6 : k = 6
    · subst q6
      have hn : 33 = n := Option.some.inj (show some 33 = some n from hk)
      rw [← hn]; exact U6
    rw [E _ (by omega)]; exact h1 k n hk
  · have hl : k < 7 := (List.getElem?_eq_some_iff.mp hk).1
    rw [E _ (by omega)]; exact h2 k n hk
  · have hl : t < 3 := (List.getElem?_eq_some_iff.mp ht).1
    rw [E _ (by omega)]; exact h3 z hz t n ht
  · rw [N0] at hd
    obtain ⟨c0, c1, c2, c3, c4, c5⟩ := h4 d (by omega)
    exact ⟨by rw [E _ (by omega)]; exact c0, by rw [E _ (by omega)]; exact c1, by rw [E _ (by omega)]; exact c2, by rw [E _ (by omega)]; exact c3, by rw [E _ (by omega)]; exact c4, fun m hm => by rw [E _ (by omega)]; exact c5 m hm⟩
  · rw [N1] at hs
    obtain ⟨s0, s1, s2⟩ := h5 s (by omega)
    exact ⟨by rw [E _ (by omega)]; exact s0, by rw [E _ (by omega)]; exact s1, by rw [E _ (by omega)]; exact s2⟩
  · rw [N2] at hx
    obtain ⟨x0, x1, x2, x3, x4⟩ := h6 x (by omega)
    exact ⟨fun s hs => by rw [E _ (by omega)]; obtain ⟨c, q1, q2⟩ := x0 s hs; exact ⟨c, by omega, q2⟩, by rw [E _ (by omega)]; exact x1, by rw [E _ (by omega)]; exact x2, by rw [E _ (by omega)]; exact x3, fun s hs => by rw [E _ (by omega)]; obtain ⟨c, q1, q2⟩ := x4 s hs; exact ⟨c, Nat.lt_of_lt_of_le q1 (Nat.pow_le_pow_right (by decide) L1), q2⟩⟩
  · rw [N3] at ht
    obtain ⟨t0, t1, t2, t3⟩ := h7 t (by omega)
    have t4 := (t2.n (by omega)).2
    refine ⟨by rw [E _ (by omega)]; exact t0, by rw [E _ (by omega)]; exact t1, by rw [E _ (by omega)]; exact t2, ?_⟩
    rw [kc_N (E (468 + 66 * t + 2) (by omega)), kDep_c (f := fun k => g (468 + 66 * t + 3 + k)) (fun k hk => E _ (by unfold kN at hk; omega))]
    exact t3
  · rw [N4] at he
    obtain ⟨e0, e1, e2, e3, e4⟩ := h8 e (by omega)
    exact ⟨by rw [E _ (by omega)]; obtain ⟨c, q1, q2⟩ := e0; exact ⟨c, by omega, q2⟩, by rw [E _ (by omega)]; exact e1, by rw [E _ (by omega)]; exact e2, by rw [E _ (by omega)]; exact e3, by rw [E _ (by omega)]; exact e4⟩
  · rw [N5] at hk
    rw [E _ (by omega)]; exact h9 k (by omega)

theorem kRS.addCar {g g' : Nat → Int32} {u v : KMem} (h : kRS 1 g u) (hg : kGI g) (hn : kN g 0 < 30) (E : ∀ i, ¬ (i = 0 ∨ (40 + 8 * kN g 0 ≤ i ∧ i < 48 + 8 * kN g 0)) → g' i = g i) (V : ∀ b k, ¬ ((b = 1 ∧ k = 1) ∨ (1 + (12 + 2 * kN g 0) ≤ b ∧ b ≤ 1 + (12 + 2 * kN g 0 + 1))) → v.2.1 b k = u.2.1 b k) (C0 : v.2.1 1 1 = g' 0) (cn0 : kN g' 0 = kN g 0 + 1) (hp : kXCar 1 g' v (kN g 0)) : kRS 1 g' v := by
  have n0 := (hg.cnt (k := 0) rfl).2
  have n1 := (hg.cnt (k := 1) rfl).2
  have n2 := (hg.cnt (k := 2) rfl).2
  have n3 := (hg.cnt (k := 3) rfl).2
  have n4 := (hg.cnt (k := 4) rfl).2
  have n5 := (hg.cnt (k := 5) rfl).2
  have n6 := (hg.cnt (k := 6) rfl).2
  have N0 := cn0
  have N1 : kN g' 1 = kN g 1 := kc_N (E 1 (by omega))
  have N2 : kN g' 2 = kN g 2 := kc_N (E 2 (by omega))
  have N3 : kN g' 3 = kN g 3 := kc_N (E 3 (by omega))
  have N4 : kN g' 4 = kN g 4 := kc_N (E 4 (by omega))
  have N5 : kN g' 5 = kN g 5 := kc_N (E 5 (by omega))
  have N6 : kN g' 6 = kN g 6 := kc_N (E 6 (by omega))
  obtain ⟨⟨a0, a1, a2, a3, a4, a5, a6, a7⟩, h2, h3, h4, h5, h6, h7, h8, h9, h10⟩ := h
  refine ⟨⟨C0, by rw [V _ _ (by omega), E _ (by omega)]; exact a1, by rw [V _ _ (by omega), E _ (by omega)]; exact a2, by rw [V _ _ (by omega), E _ (by omega)]; exact a3, by rw [V _ _ (by omega), E _ (by omega)]; exact a4, by rw [V _ _ (by omega), E _ (by omega)]; exact a5, by rw [V _ _ (by omega), E _ (by omega)]; exact a6, by rw [V _ _ (by omega), E _ (by omega)]; exact a7⟩, fun k hk => ?_, fun z hz t ht => ?_, fun d hd => ?_, fun i hi => ?_, fun x hx => ?_, fun t ht => ?_, fun e he => ?_, fun k hk => ?_, fun k hk => ?_⟩
  · rw [V _ _ (by omega), E _ (by omega)]; exact h2 k hk
  · rw [V _ _ (by omega), E _ (by omega)]; exact h3 z hz t ht
  · rw [N0] at hd
    by_cases q : d = kN g 0
    · rw [q]; exact hp
    · exact kc_cars (h4 d (by omega)) (fun f hf => E _ (by omega)) (fun b k q1 q2 => V b k (by omega))
  · rw [N1] at hi
    exact kc_shape (h5 i (by omega)) (fun f hf => E _ (by omega)) (fun b q1 q2 => V b i (by omega))
  · rw [N2] at hx
    have hx2 : x < kN g 2 := by omega
    have o0 := (hg.carOf hx2 (s := 0) (by omega)).2
    have o1 := (hg.carOf hx2 (s := 1) (by omega)).2
    refine kc_crash (h6 x hx2) (fun f hf => E _ (by omega)) (fun s hs => ?_) (fun b k q1 q2 => V b k (by omega))
    have o2 := (hg.carOf hx2 hs).2
    exact E _ (by omega)
  · rw [N3] at ht
    have ht2 : t < kN g 3 := by omega
    exact kc_treaty (h7 t ht2) ((hg.2.2.2.2.2.2.1 t ht2).2.2.1.n (by omega)).2 (fun f hf => E _ (by omega)) (fun b k q1 q2 => V b k (by omega))
  · rw [N4] at he
    exact kc_entry (h8 e (by omega)) (fun i hi f hf => E _ (by omega)) (fun k => V _ k (by omega))
  · rw [N5] at hk
    rw [V _ _ (by omega), E _ (by omega)]; exact h9 k (by omega)
  · rw [N6] at hk
    rw [V _ _ (by omega), E _ (by omega)]; exact h10 k (by omega)

theorem kGI.addCar {g g' : Nat → Int32} (hg : kGI g) (hn : kN g 0 < 30) (E : ∀ i, ¬ (i = 0 ∨ (40 + 8 * kN g 0 ≤ i ∧ i < 48 + 8 * kN g 0)) → g' i = g i) (U0 : kUp (g' 0) 30) (cn0 : kN g' 0 = kN g 0 + 1) (hp : kOkCar g' (kN g 0)) : kGI g' := by
  have n0 := (hg.cnt (k := 0) rfl).2
  have n1 := (hg.cnt (k := 1) rfl).2
  have n2 := (hg.cnt (k := 2) rfl).2
  have n3 := (hg.cnt (k := 3) rfl).2
  have n4 := (hg.cnt (k := 4) rfl).2
  have n5 := (hg.cnt (k := 5) rfl).2
  have n6 := (hg.cnt (k := 6) rfl).2
  have N0 := cn0
  have N1 : kN g' 1 = kN g 1 := kc_N (E 1 (by omega))
  have N2 : kN g' 2 = kN g 2 := kc_N (E 2 (by omega))
  have N3 : kN g' 3 = kN g 3 := kc_N (E 3 (by omega))
  have N4 : kN g' 4 = kN g 4 := kc_N (E 4 (by omega))
  have N5 : kN g' 5 = kN g 5 := kc_N (E 5 (by omega))
  have N6 : kN g' 6 = kN g 6 := kc_N (E 6 (by omega))
  have L0 : kN g 0 ≤ kN g' 0 := by omega
  have L1 : kN g 1 ≤ kN g' 1 := by omega
  have L2 : kN g 2 ≤ kN g' 2 := by omega
  obtain ⟨h1, h2, h3, h4, h5, h6, h7, h8, h9⟩ := hg
  refine ⟨fun k n hk => ?_, fun k n hk => ?_, fun z hz t n ht => ?_, fun d hd => ?_, fun s hs => ?_, fun x hx => ?_, fun t ht => ?_, fun e he => ?_, fun k hk => ?_⟩
  · have hl : k < 7 := (List.getElem?_eq_some_iff.mp hk).1
    by_cases q0 : k = 0
    · subst q0
      have hn : 30 = n := Option.some.inj (show some 30 = some n from hk)
      rw [← hn]; exact U0
    rw [E _ (by omega)]; exact h1 k n hk
  · have hl : k < 7 := (List.getElem?_eq_some_iff.mp hk).1
    rw [E _ (by omega)]; exact h2 k n hk
  · have hl : t < 3 := (List.getElem?_eq_some_iff.mp ht).1
    rw [E _ (by omega)]; exact h3 z hz t n ht
  · rw [N0] at hd
    by_cases q : d = kN g 0
    · rw [q]; exact hp
    · obtain ⟨c0, c1, c2, c3, c4, c5⟩ := h4 d (by omega)
      exact ⟨by rw [E _ (by omega)]; exact c0, by rw [E _ (by omega)]; exact c1, by rw [E _ (by omega)]; exact c2, by rw [E _ (by omega)]; exact c3, by rw [E _ (by omega)]; exact c4, fun m hm => by rw [E _ (by omega)]; exact c5 m hm⟩
  · rw [N1] at hs
    obtain ⟨s0, s1, s2⟩ := h5 s (by omega)
    exact ⟨by rw [E _ (by omega)]; exact s0, by rw [E _ (by omega)]; exact s1, by rw [E _ (by omega)]; exact s2⟩
  · rw [N2] at hx
    obtain ⟨x0, x1, x2, x3, x4⟩ := h6 x (by omega)
    exact ⟨fun s hs => by rw [E _ (by omega)]; obtain ⟨c, q1, q2⟩ := x0 s hs; exact ⟨c, by omega, q2⟩, by rw [E _ (by omega)]; exact x1, by rw [E _ (by omega)]; exact x2, by rw [E _ (by omega)]; exact x3, fun s hs => by rw [E _ (by omega)]; obtain ⟨c, q1, q2⟩ := x4 s hs; exact ⟨c, Nat.lt_of_lt_of_le q1 (Nat.pow_le_pow_right (by decide) L1), q2⟩⟩
  · rw [N3] at ht
    obtain ⟨t0, t1, t2, t3⟩ := h7 t (by omega)
    have t4 := (t2.n (by omega)).2
    refine ⟨by rw [E _ (by omega)]; exact t0, by rw [E _ (by omega)]; exact t1, by rw [E _ (by omega)]; exact t2, ?_⟩
    rw [kc_N (E (468 + 66 * t + 2) (by omega)), kDep_c (f := fun k => g (468 + 66 * t + 3 + k)) (fun k hk => E _ (by unfold kN at hk; omega))]
    exact t3
  · rw [N4] at he
    obtain ⟨e0, e1, e2, e3, e4⟩ := h8 e (by omega)
    exact ⟨by rw [E _ (by omega)]; obtain ⟨c, q1, q2⟩ := e0; exact ⟨c, by omega, q2⟩, by rw [E _ (by omega)]; exact e1, by rw [E _ (by omega)]; exact e2, by rw [E _ (by omega)]; exact e3, by rw [E _ (by omega)]; exact e4⟩
  · rw [N5] at hk
    rw [E _ (by omega)]; exact h9 k (by omega)

theorem kRS.addShape {g g' : Nat → Int32} {u v : KMem} (h : kRS 1 g u) (hg : kGI g) (hn : kN g 1 < 16) (E : ∀ i, ¬ (i = 1 ∨ (280 + 3 * kN g 1 ≤ i ∧ i < 283 + 3 * kN g 1)) → g' i = g i) (V : ∀ b k, ¬ ((b = 1 ∧ k = 5) ∨ (3 ≤ b ∧ b ≤ 5 ∧ k = kN g 1)) → v.2.1 b k = u.2.1 b k) (C1 : v.2.1 1 5 = g' 1) (cn1 : kN g' 1 = kN g 1 + 1) (hp : kXShape 1 g' v (kN g 1)) : kRS 1 g' v := by
  have n0 := (hg.cnt (k := 0) rfl).2
  have n1 := (hg.cnt (k := 1) rfl).2
  have n2 := (hg.cnt (k := 2) rfl).2
  have n3 := (hg.cnt (k := 3) rfl).2
  have n4 := (hg.cnt (k := 4) rfl).2
  have n5 := (hg.cnt (k := 5) rfl).2
  have n6 := (hg.cnt (k := 6) rfl).2
  have N0 : kN g' 0 = kN g 0 := kc_N (E 0 (by omega))
  have N1 := cn1
  have N2 : kN g' 2 = kN g 2 := kc_N (E 2 (by omega))
  have N3 : kN g' 3 = kN g 3 := kc_N (E 3 (by omega))
  have N4 : kN g' 4 = kN g 4 := kc_N (E 4 (by omega))
  have N5 : kN g' 5 = kN g 5 := kc_N (E 5 (by omega))
  have N6 : kN g' 6 = kN g 6 := kc_N (E 6 (by omega))
  obtain ⟨⟨a0, a1, a2, a3, a4, a5, a6, a7⟩, h2, h3, h4, h5, h6, h7, h8, h9, h10⟩ := h
  refine ⟨⟨by rw [V _ _ (by omega), E _ (by omega)]; exact a0, C1, by rw [V _ _ (by omega), E _ (by omega)]; exact a2, by rw [V _ _ (by omega), E _ (by omega)]; exact a3, by rw [V _ _ (by omega), E _ (by omega)]; exact a4, by rw [V _ _ (by omega), E _ (by omega)]; exact a5, by rw [V _ _ (by omega), E _ (by omega)]; exact a6, by rw [V _ _ (by omega), E _ (by omega)]; exact a7⟩, fun k hk => ?_, fun z hz t ht => ?_, fun d hd => ?_, fun i hi => ?_, fun x hx => ?_, fun t ht => ?_, fun e he => ?_, fun k hk => ?_, fun k hk => ?_⟩
  · rw [V _ _ (by omega), E _ (by omega)]; exact h2 k hk
  · rw [V _ _ (by omega), E _ (by omega)]; exact h3 z hz t ht
  · rw [N0] at hd
    exact kc_cars (h4 d (by omega)) (fun f hf => E _ (by omega)) (fun b k q1 q2 => V b k (by omega))
  · rw [N1] at hi
    by_cases q : i = kN g 1
    · rw [q]; exact hp
    · exact kc_shape (h5 i (by omega)) (fun f hf => E _ (by omega)) (fun b q1 q2 => V b i (by omega))
  · rw [N2] at hx
    have hx2 : x < kN g 2 := by omega
    have o0 := (hg.carOf hx2 (s := 0) (by omega)).2
    have o1 := (hg.carOf hx2 (s := 1) (by omega)).2
    refine kc_crash (h6 x hx2) (fun f hf => E _ (by omega)) (fun s hs => ?_) (fun b k q1 q2 => V b k (by omega))
    have o2 := (hg.carOf hx2 hs).2
    exact E _ (by omega)
  · rw [N3] at ht
    have ht2 : t < kN g 3 := by omega
    exact kc_treaty (h7 t ht2) ((hg.2.2.2.2.2.2.1 t ht2).2.2.1.n (by omega)).2 (fun f hf => E _ (by omega)) (fun b k q1 q2 => V b k (by omega))
  · rw [N4] at he
    exact kc_entry (h8 e (by omega)) (fun i hi f hf => E _ (by omega)) (fun k => V _ k (by omega))
  · rw [N5] at hk
    rw [V _ _ (by omega), E _ (by omega)]; exact h9 k (by omega)
  · rw [N6] at hk
    rw [V _ _ (by omega), E _ (by omega)]; exact h10 k (by omega)

theorem kGI.addShape {g g' : Nat → Int32} (hg : kGI g) (hn : kN g 1 < 16) (E : ∀ i, ¬ (i = 1 ∨ (280 + 3 * kN g 1 ≤ i ∧ i < 283 + 3 * kN g 1)) → g' i = g i) (U1 : kUp (g' 1) 16) (cn1 : kN g' 1 = kN g 1 + 1) (hp : kOkShape g' (kN g 1)) : kGI g' := by
  have n0 := (hg.cnt (k := 0) rfl).2
  have n1 := (hg.cnt (k := 1) rfl).2
  have n2 := (hg.cnt (k := 2) rfl).2
  have n3 := (hg.cnt (k := 3) rfl).2
  have n4 := (hg.cnt (k := 4) rfl).2
  have n5 := (hg.cnt (k := 5) rfl).2
  have n6 := (hg.cnt (k := 6) rfl).2
  have N0 : kN g' 0 = kN g 0 := kc_N (E 0 (by omega))
  have N1 := cn1
  have N2 : kN g' 2 = kN g 2 := kc_N (E 2 (by omega))
  have N3 : kN g' 3 = kN g 3 := kc_N (E 3 (by omega))
  have N4 : kN g' 4 = kN g 4 := kc_N (E 4 (by omega))
  have N5 : kN g' 5 = kN g 5 := kc_N (E 5 (by omega))
  have N6 : kN g' 6 = kN g 6 := kc_N (E 6 (by omega))
  have L0 : kN g 0 ≤ kN g' 0 := by omega
  have L1 : kN g 1 ≤ kN g' 1 := by omega
  have L2 : kN g 2 ≤ kN g' 2 := by omega
  obtain ⟨h1, h2, h3, h4, h5, h6, h7, h8, h9⟩ := hg
  refine ⟨fun k n hk => ?_, fun k n hk => ?_, fun z hz t n ht => ?_, fun d hd => ?_, fun s hs => ?_, fun x hx => ?_, fun t ht => ?_, fun e he => ?_, fun k hk => ?_⟩
  · have hl : k < 7 := (List.getElem?_eq_some_iff.mp hk).1
    by_cases q1 : k = 1
    · subst q1
      have hn : 16 = n := Option.some.inj (show some 16 = some n from hk)
      rw [← hn]; exact U1
    rw [E _ (by omega)]; exact h1 k n hk
  · have hl : k < 7 := (List.getElem?_eq_some_iff.mp hk).1
    rw [E _ (by omega)]; exact h2 k n hk
  · have hl : t < 3 := (List.getElem?_eq_some_iff.mp ht).1
    rw [E _ (by omega)]; exact h3 z hz t n ht
  · rw [N0] at hd
    obtain ⟨c0, c1, c2, c3, c4, c5⟩ := h4 d (by omega)
    exact ⟨by rw [E _ (by omega)]; exact c0, by rw [E _ (by omega)]; exact c1, by rw [E _ (by omega)]; exact c2, by rw [E _ (by omega)]; exact c3, by rw [E _ (by omega)]; exact c4, fun m hm => by rw [E _ (by omega)]; exact c5 m hm⟩
  · rw [N1] at hs
    by_cases q : s = kN g 1
    · rw [q]; exact hp
    · obtain ⟨s0, s1, s2⟩ := h5 s (by omega)
      exact ⟨by rw [E _ (by omega)]; exact s0, by rw [E _ (by omega)]; exact s1, by rw [E _ (by omega)]; exact s2⟩
  · rw [N2] at hx
    obtain ⟨x0, x1, x2, x3, x4⟩ := h6 x (by omega)
    exact ⟨fun s hs => by rw [E _ (by omega)]; obtain ⟨c, q1, q2⟩ := x0 s hs; exact ⟨c, by omega, q2⟩, by rw [E _ (by omega)]; exact x1, by rw [E _ (by omega)]; exact x2, by rw [E _ (by omega)]; exact x3, fun s hs => by rw [E _ (by omega)]; obtain ⟨c, q1, q2⟩ := x4 s hs; exact ⟨c, Nat.lt_of_lt_of_le q1 (Nat.pow_le_pow_right (by decide) L1), q2⟩⟩
  · rw [N3] at ht
    obtain ⟨t0, t1, t2, t3⟩ := h7 t (by omega)
    have t4 := (t2.n (by omega)).2
    refine ⟨by rw [E _ (by omega)]; exact t0, by rw [E _ (by omega)]; exact t1, by rw [E _ (by omega)]; exact t2, ?_⟩
    rw [kc_N (E (468 + 66 * t + 2) (by omega)), kDep_c (f := fun k => g (468 + 66 * t + 3 + k)) (fun k hk => E _ (by unfold kN at hk; omega))]
    exact t3
  · rw [N4] at he
    obtain ⟨e0, e1, e2, e3, e4⟩ := h8 e (by omega)
    exact ⟨by rw [E _ (by omega)]; obtain ⟨c, q1, q2⟩ := e0; exact ⟨c, by omega, q2⟩, by rw [E _ (by omega)]; exact e1, by rw [E _ (by omega)]; exact e2, by rw [E _ (by omega)]; exact e3, by rw [E _ (by omega)]; exact e4⟩
  · rw [N5] at hk
    rw [E _ (by omega)]; exact h9 k (by omega)

theorem kRS.addCrash {g g' : Nat → Int32} {u v : KMem} (h : kRS 1 g u) (hg : kGI g) (hn : kN g 2 < 20) (E : ∀ i, ¬ (i = 2 ∨ (328 + 7 * kN g 2 ≤ i ∧ i < 335 + 7 * kN g 2)) → g' i = g i) (V : ∀ b k, ¬ ((b = 1 ∧ k = 7) ∨ (1 + (72 + 3 * kN g 2) ≤ b ∧ b ≤ 1 + (72 + 3 * kN g 2 + 2))) → v.2.1 b k = u.2.1 b k) (C2 : v.2.1 1 7 = g' 2) (cn2 : kN g' 2 = kN g 2 + 1) (hp : kXCrash 1 g' v (kN g 2)) : kRS 1 g' v := by
  have n0 := (hg.cnt (k := 0) rfl).2
  have n1 := (hg.cnt (k := 1) rfl).2
  have n2 := (hg.cnt (k := 2) rfl).2
  have n3 := (hg.cnt (k := 3) rfl).2
  have n4 := (hg.cnt (k := 4) rfl).2
  have n5 := (hg.cnt (k := 5) rfl).2
  have n6 := (hg.cnt (k := 6) rfl).2
  have N0 : kN g' 0 = kN g 0 := kc_N (E 0 (by omega))
  have N1 : kN g' 1 = kN g 1 := kc_N (E 1 (by omega))
  have N2 := cn2
  have N3 : kN g' 3 = kN g 3 := kc_N (E 3 (by omega))
  have N4 : kN g' 4 = kN g 4 := kc_N (E 4 (by omega))
  have N5 : kN g' 5 = kN g 5 := kc_N (E 5 (by omega))
  have N6 : kN g' 6 = kN g 6 := kc_N (E 6 (by omega))
  obtain ⟨⟨a0, a1, a2, a3, a4, a5, a6, a7⟩, h2, h3, h4, h5, h6, h7, h8, h9, h10⟩ := h
  refine ⟨⟨by rw [V _ _ (by omega), E _ (by omega)]; exact a0, by rw [V _ _ (by omega), E _ (by omega)]; exact a1, C2, by rw [V _ _ (by omega), E _ (by omega)]; exact a3, by rw [V _ _ (by omega), E _ (by omega)]; exact a4, by rw [V _ _ (by omega), E _ (by omega)]; exact a5, by rw [V _ _ (by omega), E _ (by omega)]; exact a6, by rw [V _ _ (by omega), E _ (by omega)]; exact a7⟩, fun k hk => ?_, fun z hz t ht => ?_, fun d hd => ?_, fun i hi => ?_, fun x hx => ?_, fun t ht => ?_, fun e he => ?_, fun k hk => ?_, fun k hk => ?_⟩
  · rw [V _ _ (by omega), E _ (by omega)]; exact h2 k hk
  · rw [V _ _ (by omega), E _ (by omega)]; exact h3 z hz t ht
  · rw [N0] at hd
    exact kc_cars (h4 d (by omega)) (fun f hf => E _ (by omega)) (fun b k q1 q2 => V b k (by omega))
  · rw [N1] at hi
    exact kc_shape (h5 i (by omega)) (fun f hf => E _ (by omega)) (fun b q1 q2 => V b i (by omega))
  · rw [N2] at hx
    by_cases q : x = kN g 2
    · rw [q]; exact hp
    · have hx2 : x < kN g 2 := by omega
      have o0 := (hg.carOf hx2 (s := 0) (by omega)).2
      have o1 := (hg.carOf hx2 (s := 1) (by omega)).2
      refine kc_crash (h6 x hx2) (fun f hf => E _ (by omega)) (fun s hs => ?_) (fun b k q1 q2 => V b k (by omega))
      have o2 := (hg.carOf hx2 hs).2
      exact E _ (by omega)
  · rw [N3] at ht
    have ht2 : t < kN g 3 := by omega
    exact kc_treaty (h7 t ht2) ((hg.2.2.2.2.2.2.1 t ht2).2.2.1.n (by omega)).2 (fun f hf => E _ (by omega)) (fun b k q1 q2 => V b k (by omega))
  · rw [N4] at he
    exact kc_entry (h8 e (by omega)) (fun i hi f hf => E _ (by omega)) (fun k => V _ k (by omega))
  · rw [N5] at hk
    rw [V _ _ (by omega), E _ (by omega)]; exact h9 k (by omega)
  · rw [N6] at hk
    rw [V _ _ (by omega), E _ (by omega)]; exact h10 k (by omega)

theorem kGI.addCrash {g g' : Nat → Int32} (hg : kGI g) (hn : kN g 2 < 20) (E : ∀ i, ¬ (i = 2 ∨ (328 + 7 * kN g 2 ≤ i ∧ i < 335 + 7 * kN g 2)) → g' i = g i) (U2 : kUp (g' 2) 20) (cn2 : kN g' 2 = kN g 2 + 1) (hp : kOkCrash g' (kN g 2)) : kGI g' := by
  have n0 := (hg.cnt (k := 0) rfl).2
  have n1 := (hg.cnt (k := 1) rfl).2
  have n2 := (hg.cnt (k := 2) rfl).2
  have n3 := (hg.cnt (k := 3) rfl).2
  have n4 := (hg.cnt (k := 4) rfl).2
  have n5 := (hg.cnt (k := 5) rfl).2
  have n6 := (hg.cnt (k := 6) rfl).2
  have N0 : kN g' 0 = kN g 0 := kc_N (E 0 (by omega))
  have N1 : kN g' 1 = kN g 1 := kc_N (E 1 (by omega))
  have N2 := cn2
  have N3 : kN g' 3 = kN g 3 := kc_N (E 3 (by omega))
  have N4 : kN g' 4 = kN g 4 := kc_N (E 4 (by omega))
  have N5 : kN g' 5 = kN g 5 := kc_N (E 5 (by omega))
  have N6 : kN g' 6 = kN g 6 := kc_N (E 6 (by omega))
  have L0 : kN g 0 ≤ kN g' 0 := by omega
  have L1 : kN g 1 ≤ kN g' 1 := by omega
  have L2 : kN g 2 ≤ kN g' 2 := by omega
  obtain ⟨h1, h2, h3, h4, h5, h6, h7, h8, h9⟩ := hg
  refine ⟨fun k n hk => ?_, fun k n hk => ?_, fun z hz t n ht => ?_, fun d hd => ?_, fun s hs => ?_, fun x hx => ?_, fun t ht => ?_, fun e he => ?_, fun k hk => ?_⟩
  · have hl : k < 7 := (List.getElem?_eq_some_iff.mp hk).1
    by_cases q2 : k = 2
    · subst q2
      have hn : 20 = n := Option.some.inj (show some 20 = some n from hk)
      rw [← hn]; exact U2
    rw [E _ (by omega)]; exact h1 k n hk
  · have hl : k < 7 := (List.getElem?_eq_some_iff.mp hk).1
    rw [E _ (by omega)]; exact h2 k n hk
  · have hl : t < 3 := (List.getElem?_eq_some_iff.mp ht).1
    rw [E _ (by omega)]; exact h3 z hz t n ht
  · rw [N0] at hd
    obtain ⟨c0, c1, c2, c3, c4, c5⟩ := h4 d (by omega)
    exact ⟨by rw [E _ (by omega)]; exact c0, by rw [E _ (by omega)]; exact c1, by rw [E _ (by omega)]; exact c2, by rw [E _ (by omega)]; exact c3, by rw [E _ (by omega)]; exact c4, fun m hm => by rw [E _ (by omega)]; exact c5 m hm⟩
  · rw [N1] at hs
    obtain ⟨s0, s1, s2⟩ := h5 s (by omega)
    exact ⟨by rw [E _ (by omega)]; exact s0, by rw [E _ (by omega)]; exact s1, by rw [E _ (by omega)]; exact s2⟩
  · rw [N2] at hx
    by_cases q : x = kN g 2
    · rw [q]; exact hp
    · obtain ⟨x0, x1, x2, x3, x4⟩ := h6 x (by omega)
      exact ⟨fun s hs => by rw [E _ (by omega)]; obtain ⟨c, q1, q2⟩ := x0 s hs; exact ⟨c, by omega, q2⟩, by rw [E _ (by omega)]; exact x1, by rw [E _ (by omega)]; exact x2, by rw [E _ (by omega)]; exact x3, fun s hs => by rw [E _ (by omega)]; obtain ⟨c, q1, q2⟩ := x4 s hs; exact ⟨c, Nat.lt_of_lt_of_le q1 (Nat.pow_le_pow_right (by decide) L1), q2⟩⟩
  · rw [N3] at ht
    obtain ⟨t0, t1, t2, t3⟩ := h7 t (by omega)
    have t4 := (t2.n (by omega)).2
    refine ⟨by rw [E _ (by omega)]; exact t0, by rw [E _ (by omega)]; exact t1, by rw [E _ (by omega)]; exact t2, ?_⟩
    rw [kc_N (E (468 + 66 * t + 2) (by omega)), kDep_c (f := fun k => g (468 + 66 * t + 3 + k)) (fun k hk => E _ (by unfold kN at hk; omega))]
    exact t3
  · rw [N4] at he
    obtain ⟨e0, e1, e2, e3, e4⟩ := h8 e (by omega)
    exact ⟨by rw [E _ (by omega)]; obtain ⟨c, q1, q2⟩ := e0; exact ⟨c, by omega, q2⟩, by rw [E _ (by omega)]; exact e1, by rw [E _ (by omega)]; exact e2, by rw [E _ (by omega)]; exact e3, by rw [E _ (by omega)]; exact e4⟩
  · rw [N5] at hk
    rw [E _ (by omega)]; exact h9 k (by omega)

theorem kRS.addEntry {g g' : Nat → Int32} {u v : KMem} (h : kRS 1 g u) (hg : kGI g) (hn : kN g 4 < 40) (E : ∀ i, ¬ (i = 4 ∨ (1128 + 5 * kN g 4 ≤ i ∧ i < 1133 + 5 * kN g 4)) → g' i = g i) (V : ∀ b k, ¬ ((b = 1 ∧ k = 11) ∨ b = 1 + (152 + kN g 4)) → v.2.1 b k = u.2.1 b k) (C4 : v.2.1 1 11 = g' 4) (cn4 : kN g' 4 = kN g 4 + 1) (hp : kXEntry 1 g' v (kN g 4)) : kRS 1 g' v := by
  have n0 := (hg.cnt (k := 0) rfl).2
  have n1 := (hg.cnt (k := 1) rfl).2
  have n2 := (hg.cnt (k := 2) rfl).2
  have n3 := (hg.cnt (k := 3) rfl).2
  have n4 := (hg.cnt (k := 4) rfl).2
  have n5 := (hg.cnt (k := 5) rfl).2
  have n6 := (hg.cnt (k := 6) rfl).2
  have N0 : kN g' 0 = kN g 0 := kc_N (E 0 (by omega))
  have N1 : kN g' 1 = kN g 1 := kc_N (E 1 (by omega))
  have N2 : kN g' 2 = kN g 2 := kc_N (E 2 (by omega))
  have N3 : kN g' 3 = kN g 3 := kc_N (E 3 (by omega))
  have N4 := cn4
  have N5 : kN g' 5 = kN g 5 := kc_N (E 5 (by omega))
  have N6 : kN g' 6 = kN g 6 := kc_N (E 6 (by omega))
  obtain ⟨⟨a0, a1, a2, a3, a4, a5, a6, a7⟩, h2, h3, h4, h5, h6, h7, h8, h9, h10⟩ := h
  refine ⟨⟨by rw [V _ _ (by omega), E _ (by omega)]; exact a0, by rw [V _ _ (by omega), E _ (by omega)]; exact a1, by rw [V _ _ (by omega), E _ (by omega)]; exact a2, by rw [V _ _ (by omega), E _ (by omega)]; exact a3, C4, by rw [V _ _ (by omega), E _ (by omega)]; exact a5, by rw [V _ _ (by omega), E _ (by omega)]; exact a6, by rw [V _ _ (by omega), E _ (by omega)]; exact a7⟩, fun k hk => ?_, fun z hz t ht => ?_, fun d hd => ?_, fun i hi => ?_, fun x hx => ?_, fun t ht => ?_, fun e he => ?_, fun k hk => ?_, fun k hk => ?_⟩
  · rw [V _ _ (by omega), E _ (by omega)]; exact h2 k hk
  · rw [V _ _ (by omega), E _ (by omega)]; exact h3 z hz t ht
  · rw [N0] at hd
    exact kc_cars (h4 d (by omega)) (fun f hf => E _ (by omega)) (fun b k q1 q2 => V b k (by omega))
  · rw [N1] at hi
    exact kc_shape (h5 i (by omega)) (fun f hf => E _ (by omega)) (fun b q1 q2 => V b i (by omega))
  · rw [N2] at hx
    have hx2 : x < kN g 2 := by omega
    have o0 := (hg.carOf hx2 (s := 0) (by omega)).2
    have o1 := (hg.carOf hx2 (s := 1) (by omega)).2
    refine kc_crash (h6 x hx2) (fun f hf => E _ (by omega)) (fun s hs => ?_) (fun b k q1 q2 => V b k (by omega))
    have o2 := (hg.carOf hx2 hs).2
    exact E _ (by omega)
  · rw [N3] at ht
    have ht2 : t < kN g 3 := by omega
    exact kc_treaty (h7 t ht2) ((hg.2.2.2.2.2.2.1 t ht2).2.2.1.n (by omega)).2 (fun f hf => E _ (by omega)) (fun b k q1 q2 => V b k (by omega))
  · rw [N4] at he
    by_cases q : e = kN g 4
    · rw [q]; exact hp
    · exact kc_entry (h8 e (by omega)) (fun i hi f hf => E _ (by omega)) (fun k => V _ k (by omega))
  · rw [N5] at hk
    rw [V _ _ (by omega), E _ (by omega)]; exact h9 k (by omega)
  · rw [N6] at hk
    rw [V _ _ (by omega), E _ (by omega)]; exact h10 k (by omega)

theorem kGI.addEntry {g g' : Nat → Int32} (hg : kGI g) (hn : kN g 4 < 40) (E : ∀ i, ¬ (i = 4 ∨ (1128 + 5 * kN g 4 ≤ i ∧ i < 1133 + 5 * kN g 4)) → g' i = g i) (U4 : kUp (g' 4) 40) (cn4 : kN g' 4 = kN g 4 + 1) (hp : kOkEntry g' (kN g 4)) : kGI g' := by
  have n0 := (hg.cnt (k := 0) rfl).2
  have n1 := (hg.cnt (k := 1) rfl).2
  have n2 := (hg.cnt (k := 2) rfl).2
  have n3 := (hg.cnt (k := 3) rfl).2
  have n4 := (hg.cnt (k := 4) rfl).2
  have n5 := (hg.cnt (k := 5) rfl).2
  have n6 := (hg.cnt (k := 6) rfl).2
  have N0 : kN g' 0 = kN g 0 := kc_N (E 0 (by omega))
  have N1 : kN g' 1 = kN g 1 := kc_N (E 1 (by omega))
  have N2 : kN g' 2 = kN g 2 := kc_N (E 2 (by omega))
  have N3 : kN g' 3 = kN g 3 := kc_N (E 3 (by omega))
  have N4 := cn4
  have N5 : kN g' 5 = kN g 5 := kc_N (E 5 (by omega))
  have N6 : kN g' 6 = kN g 6 := kc_N (E 6 (by omega))
  have L0 : kN g 0 ≤ kN g' 0 := by omega
  have L1 : kN g 1 ≤ kN g' 1 := by omega
  have L2 : kN g 2 ≤ kN g' 2 := by omega
  obtain ⟨h1, h2, h3, h4, h5, h6, h7, h8, h9⟩ := hg
  refine ⟨fun k n hk => ?_, fun k n hk => ?_, fun z hz t n ht => ?_, fun d hd => ?_, fun s hs => ?_, fun x hx => ?_, fun t ht => ?_, fun e he => ?_, fun k hk => ?_⟩
  · have hl : k < 7 := (List.getElem?_eq_some_iff.mp hk).1
    by_cases q4 : k = 4
    · subst q4
      have hn : 40 = n := Option.some.inj (show some 40 = some n from hk)
      rw [← hn]; exact U4
    rw [E _ (by omega)]; exact h1 k n hk
  · have hl : k < 7 := (List.getElem?_eq_some_iff.mp hk).1
    rw [E _ (by omega)]; exact h2 k n hk
  · have hl : t < 3 := (List.getElem?_eq_some_iff.mp ht).1
    rw [E _ (by omega)]; exact h3 z hz t n ht
  · rw [N0] at hd
    obtain ⟨c0, c1, c2, c3, c4, c5⟩ := h4 d (by omega)
    exact ⟨by rw [E _ (by omega)]; exact c0, by rw [E _ (by omega)]; exact c1, by rw [E _ (by omega)]; exact c2, by rw [E _ (by omega)]; exact c3, by rw [E _ (by omega)]; exact c4, fun m hm => by rw [E _ (by omega)]; exact c5 m hm⟩
  · rw [N1] at hs
    obtain ⟨s0, s1, s2⟩ := h5 s (by omega)
    exact ⟨by rw [E _ (by omega)]; exact s0, by rw [E _ (by omega)]; exact s1, by rw [E _ (by omega)]; exact s2⟩
  · rw [N2] at hx
    obtain ⟨x0, x1, x2, x3, x4⟩ := h6 x (by omega)
    exact ⟨fun s hs => by rw [E _ (by omega)]; obtain ⟨c, q1, q2⟩ := x0 s hs; exact ⟨c, by omega, q2⟩, by rw [E _ (by omega)]; exact x1, by rw [E _ (by omega)]; exact x2, by rw [E _ (by omega)]; exact x3, fun s hs => by rw [E _ (by omega)]; obtain ⟨c, q1, q2⟩ := x4 s hs; exact ⟨c, Nat.lt_of_lt_of_le q1 (Nat.pow_le_pow_right (by decide) L1), q2⟩⟩
  · rw [N3] at ht
    obtain ⟨t0, t1, t2, t3⟩ := h7 t (by omega)
    have t4 := (t2.n (by omega)).2
    refine ⟨by rw [E _ (by omega)]; exact t0, by rw [E _ (by omega)]; exact t1, by rw [E _ (by omega)]; exact t2, ?_⟩
    rw [kc_N (E (468 + 66 * t + 2) (by omega)), kDep_c (f := fun k => g (468 + 66 * t + 3 + k)) (fun k hk => E _ (by unfold kN at hk; omega))]
    exact t3
  · rw [N4] at he
    by_cases q : e = kN g 4
    · rw [q]; exact hp
    · obtain ⟨e0, e1, e2, e3, e4⟩ := h8 e (by omega)
      exact ⟨by rw [E _ (by omega)]; obtain ⟨c, q1, q2⟩ := e0; exact ⟨c, by omega, q2⟩, by rw [E _ (by omega)]; exact e1, by rw [E _ (by omega)]; exact e2, by rw [E _ (by omega)]; exact e3, by rw [E _ (by omega)]; exact e4⟩
  · rw [N5] at hk
    rw [E _ (by omega)]; exact h9 k (by omega)

theorem kRS.feed {g g' : Nat → Int32} {u v : KMem} (h : kRS 1 g u) (hg : kGI g) {m : Nat} (hn : kN g 5 + m ≤ 60) (E : ∀ i, ¬ (i = 5 ∨ (1328 + kN g 5 ≤ i ∧ i < 1328 + kN g 5 + m)) → g' i = g i) (V : ∀ b k, ¬ ((b = 1 ∧ k = 15) ∨ (b = 11 ∧ kN g 5 ≤ k ∧ k < kN g 5 + m)) → v.2.1 b k = u.2.1 b k) (C5 : v.2.1 1 15 = g' 5) (cn5 : kN g' 5 = kN g 5 + m) (hp : ∀ k, kN g 5 ≤ k → k < kN g 5 + m → v.2.1 11 k = g' (1328 + k)) : kRS 1 g' v := by
  have n0 := (hg.cnt (k := 0) rfl).2
  have n1 := (hg.cnt (k := 1) rfl).2
  have n2 := (hg.cnt (k := 2) rfl).2
  have n3 := (hg.cnt (k := 3) rfl).2
  have n4 := (hg.cnt (k := 4) rfl).2
  have n5 := (hg.cnt (k := 5) rfl).2
  have n6 := (hg.cnt (k := 6) rfl).2
  have N0 : kN g' 0 = kN g 0 := kc_N (E 0 (by omega))
  have N1 : kN g' 1 = kN g 1 := kc_N (E 1 (by omega))
  have N2 : kN g' 2 = kN g 2 := kc_N (E 2 (by omega))
  have N3 : kN g' 3 = kN g 3 := kc_N (E 3 (by omega))
  have N4 : kN g' 4 = kN g 4 := kc_N (E 4 (by omega))
  have N5 := cn5
  have N6 : kN g' 6 = kN g 6 := kc_N (E 6 (by omega))
  obtain ⟨⟨a0, a1, a2, a3, a4, a5, a6, a7⟩, h2, h3, h4, h5, h6, h7, h8, h9, h10⟩ := h
  refine ⟨⟨by rw [V _ _ (by omega), E _ (by omega)]; exact a0, by rw [V _ _ (by omega), E _ (by omega)]; exact a1, by rw [V _ _ (by omega), E _ (by omega)]; exact a2, by rw [V _ _ (by omega), E _ (by omega)]; exact a3, by rw [V _ _ (by omega), E _ (by omega)]; exact a4, C5, by rw [V _ _ (by omega), E _ (by omega)]; exact a6, by rw [V _ _ (by omega), E _ (by omega)]; exact a7⟩, fun k hk => ?_, fun z hz t ht => ?_, fun d hd => ?_, fun i hi => ?_, fun x hx => ?_, fun t ht => ?_, fun e he => ?_, fun k hk => ?_, fun k hk => ?_⟩
  · rw [V _ _ (by omega), E _ (by omega)]; exact h2 k hk
  · rw [V _ _ (by omega), E _ (by omega)]; exact h3 z hz t ht
  · rw [N0] at hd
    exact kc_cars (h4 d (by omega)) (fun f hf => E _ (by omega)) (fun b k q1 q2 => V b k (by omega))
  · rw [N1] at hi
    exact kc_shape (h5 i (by omega)) (fun f hf => E _ (by omega)) (fun b q1 q2 => V b i (by omega))
  · rw [N2] at hx
    have hx2 : x < kN g 2 := by omega
    have o0 := (hg.carOf hx2 (s := 0) (by omega)).2
    have o1 := (hg.carOf hx2 (s := 1) (by omega)).2
    refine kc_crash (h6 x hx2) (fun f hf => E _ (by omega)) (fun s hs => ?_) (fun b k q1 q2 => V b k (by omega))
    have o2 := (hg.carOf hx2 hs).2
    exact E _ (by omega)
  · rw [N3] at ht
    have ht2 : t < kN g 3 := by omega
    exact kc_treaty (h7 t ht2) ((hg.2.2.2.2.2.2.1 t ht2).2.2.1.n (by omega)).2 (fun f hf => E _ (by omega)) (fun b k q1 q2 => V b k (by omega))
  · rw [N4] at he
    exact kc_entry (h8 e (by omega)) (fun i hi f hf => E _ (by omega)) (fun k => V _ k (by omega))
  · rw [N5] at hk
    by_cases q : kN g 5 ≤ k
    · exact hp k q hk
    · rw [V _ _ (by omega), E _ (by omega)]; exact h9 k (by omega)
  · rw [N6] at hk
    rw [V _ _ (by omega), E _ (by omega)]; exact h10 k (by omega)

theorem kGI.feed {g g' : Nat → Int32} (hg : kGI g) {m : Nat} (hn : kN g 5 + m ≤ 60) (E : ∀ i, ¬ (i = 5 ∨ (1328 + kN g 5 ≤ i ∧ i < 1328 + kN g 5 + m)) → g' i = g i) (U5 : kUp (g' 5) 60) (cn5 : kN g' 5 = kN g 5 + m) (hp : ∀ k, kN g 5 ≤ k → k < kN g 5 + m → kUp (g' (1328 + k)) 255) : kGI g' := by
  have n0 := (hg.cnt (k := 0) rfl).2
  have n1 := (hg.cnt (k := 1) rfl).2
  have n2 := (hg.cnt (k := 2) rfl).2
  have n3 := (hg.cnt (k := 3) rfl).2
  have n4 := (hg.cnt (k := 4) rfl).2
  have n5 := (hg.cnt (k := 5) rfl).2
  have n6 := (hg.cnt (k := 6) rfl).2
  have N0 : kN g' 0 = kN g 0 := kc_N (E 0 (by omega))
  have N1 : kN g' 1 = kN g 1 := kc_N (E 1 (by omega))
  have N2 : kN g' 2 = kN g 2 := kc_N (E 2 (by omega))
  have N3 : kN g' 3 = kN g 3 := kc_N (E 3 (by omega))
  have N4 : kN g' 4 = kN g 4 := kc_N (E 4 (by omega))
  have N5 := cn5
  have N6 : kN g' 6 = kN g 6 := kc_N (E 6 (by omega))
  have L0 : kN g 0 ≤ kN g' 0 := by omega
  have L1 : kN g 1 ≤ kN g' 1 := by omega
  have L2 : kN g 2 ≤ kN g' 2 := by omega
  obtain ⟨h1, h2, h3, h4, h5, h6, h7, h8, h9⟩ := hg
  refine ⟨fun k n hk => ?_, fun k n hk => ?_, fun z hz t n ht => ?_, fun d hd => ?_, fun s hs => ?_, fun x hx => ?_, fun t ht => ?_, fun e he => ?_, fun k hk => ?_⟩
  · have hl : k < 7 := (List.getElem?_eq_some_iff.mp hk).1
    by_cases q5 : k = 5
    · subst q5
      have hn : 60 = n := Option.some.inj (show some 60 = some n from hk)
      rw [← hn]; exact U5
    rw [E _ (by omega)]; exact h1 k n hk
  · have hl : k < 7 := (List.getElem?_eq_some_iff.mp hk).1
    rw [E _ (by omega)]; exact h2 k n hk
  · have hl : t < 3 := (List.getElem?_eq_some_iff.mp ht).1
    rw [E _ (by omega)]; exact h3 z hz t n ht
  · rw [N0] at hd
    obtain ⟨c0, c1, c2, c3, c4, c5⟩ := h4 d (by omega)
    exact ⟨by rw [E _ (by omega)]; exact c0, by rw [E _ (by omega)]; exact c1, by rw [E _ (by omega)]; exact c2, by rw [E _ (by omega)]; exact c3, by rw [E _ (by omega)]; exact c4, fun m hm => by rw [E _ (by omega)]; exact c5 m hm⟩
  · rw [N1] at hs
    obtain ⟨s0, s1, s2⟩ := h5 s (by omega)
    exact ⟨by rw [E _ (by omega)]; exact s0, by rw [E _ (by omega)]; exact s1, by rw [E _ (by omega)]; exact s2⟩
  · rw [N2] at hx
    obtain ⟨x0, x1, x2, x3, x4⟩ := h6 x (by omega)
    exact ⟨fun s hs => by rw [E _ (by omega)]; obtain ⟨c, q1, q2⟩ := x0 s hs; exact ⟨c, by omega, q2⟩, by rw [E _ (by omega)]; exact x1, by rw [E _ (by omega)]; exact x2, by rw [E _ (by omega)]; exact x3, fun s hs => by rw [E _ (by omega)]; obtain ⟨c, q1, q2⟩ := x4 s hs; exact ⟨c, Nat.lt_of_lt_of_le q1 (Nat.pow_le_pow_right (by decide) L1), q2⟩⟩
  · rw [N3] at ht
    obtain ⟨t0, t1, t2, t3⟩ := h7 t (by omega)
    have t4 := (t2.n (by omega)).2
    refine ⟨by rw [E _ (by omega)]; exact t0, by rw [E _ (by omega)]; exact t1, by rw [E _ (by omega)]; exact t2, ?_⟩
    rw [kc_N (E (468 + 66 * t + 2) (by omega)), kDep_c (f := fun k => g (468 + 66 * t + 3 + k)) (fun k hk => E _ (by unfold kN at hk; omega))]
    exact t3
  · rw [N4] at he
    obtain ⟨e0, e1, e2, e3, e4⟩ := h8 e (by omega)
    exact ⟨by rw [E _ (by omega)]; obtain ⟨c, q1, q2⟩ := e0; exact ⟨c, by omega, q2⟩, by rw [E _ (by omega)]; exact e1, by rw [E _ (by omega)]; exact e2, by rw [E _ (by omega)]; exact e3, by rw [E _ (by omega)]; exact e4⟩
  · rw [N5] at hk
    by_cases q : kN g 5 ≤ k
    · exact hp k q hk
    · rw [E _ (by omega)]; exact h9 k (by omega)

theorem kRS.untape {g g' : Nat → Int32} {u v : KMem} (h : kRS 1 g u) (hg : kGI g) (hn : kN g 3 < 10) (E : ∀ i, ¬ (i = 5) → g' i = g i) (V : ∀ b k, ¬ ((b = 1 ∧ k = 15) ∨ (1 + (132 + 2 * kN g 3) ≤ b ∧ b ≤ 1 + (132 + 2 * kN g 3 + 1))) → v.2.1 b k = u.2.1 b k) (C5 : v.2.1 1 15 = g' 5) (cn5 : kN g' 5 = 0)  : kRS 1 g' v := by
  have n0 := (hg.cnt (k := 0) rfl).2
  have n1 := (hg.cnt (k := 1) rfl).2
  have n2 := (hg.cnt (k := 2) rfl).2
  have n3 := (hg.cnt (k := 3) rfl).2
  have n4 := (hg.cnt (k := 4) rfl).2
  have n5 := (hg.cnt (k := 5) rfl).2
  have n6 := (hg.cnt (k := 6) rfl).2
  have N0 : kN g' 0 = kN g 0 := kc_N (E 0 (by omega))
  have N1 : kN g' 1 = kN g 1 := kc_N (E 1 (by omega))
  have N2 : kN g' 2 = kN g 2 := kc_N (E 2 (by omega))
  have N3 : kN g' 3 = kN g 3 := kc_N (E 3 (by omega))
  have N4 : kN g' 4 = kN g 4 := kc_N (E 4 (by omega))
  have N5 := cn5
  have N6 : kN g' 6 = kN g 6 := kc_N (E 6 (by omega))
  obtain ⟨⟨a0, a1, a2, a3, a4, a5, a6, a7⟩, h2, h3, h4, h5, h6, h7, h8, h9, h10⟩ := h
  refine ⟨⟨by rw [V _ _ (by omega), E _ (by omega)]; exact a0, by rw [V _ _ (by omega), E _ (by omega)]; exact a1, by rw [V _ _ (by omega), E _ (by omega)]; exact a2, by rw [V _ _ (by omega), E _ (by omega)]; exact a3, by rw [V _ _ (by omega), E _ (by omega)]; exact a4, C5, by rw [V _ _ (by omega), E _ (by omega)]; exact a6, by rw [V _ _ (by omega), E _ (by omega)]; exact a7⟩, fun k hk => ?_, fun z hz t ht => ?_, fun d hd => ?_, fun i hi => ?_, fun x hx => ?_, fun t ht => ?_, fun e he => ?_, fun k hk => ?_, fun k hk => ?_⟩
  · rw [V _ _ (by omega), E _ (by omega)]; exact h2 k hk
  · rw [V _ _ (by omega), E _ (by omega)]; exact h3 z hz t ht
  · rw [N0] at hd
    exact kc_cars (h4 d (by omega)) (fun f hf => E _ (by omega)) (fun b k q1 q2 => V b k (by omega))
  · rw [N1] at hi
    exact kc_shape (h5 i (by omega)) (fun f hf => E _ (by omega)) (fun b q1 q2 => V b i (by omega))
  · rw [N2] at hx
    have hx2 : x < kN g 2 := by omega
    have o0 := (hg.carOf hx2 (s := 0) (by omega)).2
    have o1 := (hg.carOf hx2 (s := 1) (by omega)).2
    refine kc_crash (h6 x hx2) (fun f hf => E _ (by omega)) (fun s hs => ?_) (fun b k q1 q2 => V b k (by omega))
    have o2 := (hg.carOf hx2 hs).2
    exact E _ (by omega)
  · rw [N3] at ht
    have ht2 : t < kN g 3 := by omega
    exact kc_treaty (h7 t ht2) ((hg.2.2.2.2.2.2.1 t ht2).2.2.1.n (by omega)).2 (fun f hf => E _ (by omega)) (fun b k q1 q2 => V b k (by omega))
  · rw [N4] at he
    exact kc_entry (h8 e (by omega)) (fun i hi f hf => E _ (by omega)) (fun k => V _ k (by omega))
  · rw [N5] at hk
    rw [V _ _ (by omega), E _ (by omega)]; exact h9 k (by omega)
  · rw [N6] at hk
    rw [V _ _ (by omega), E _ (by omega)]; exact h10 k (by omega)

theorem kGI.untape {g g' : Nat → Int32} (hg : kGI g)  (E : ∀ i, ¬ (i = 5) → g' i = g i) (U5 : kUp (g' 5) 60) (cn5 : kN g' 5 = 0)  : kGI g' := by
  have n0 := (hg.cnt (k := 0) rfl).2
  have n1 := (hg.cnt (k := 1) rfl).2
  have n2 := (hg.cnt (k := 2) rfl).2
  have n3 := (hg.cnt (k := 3) rfl).2
  have n4 := (hg.cnt (k := 4) rfl).2
  have n5 := (hg.cnt (k := 5) rfl).2
  have n6 := (hg.cnt (k := 6) rfl).2
  have N0 : kN g' 0 = kN g 0 := kc_N (E 0 (by omega))
  have N1 : kN g' 1 = kN g 1 := kc_N (E 1 (by omega))
  have N2 : kN g' 2 = kN g 2 := kc_N (E 2 (by omega))
  have N3 : kN g' 3 = kN g 3 := kc_N (E 3 (by omega))
  have N4 : kN g' 4 = kN g 4 := kc_N (E 4 (by omega))
  have N5 := cn5
  have N6 : kN g' 6 = kN g 6 := kc_N (E 6 (by omega))
  have L0 : kN g 0 ≤ kN g' 0 := by omega
  have L1 : kN g 1 ≤ kN g' 1 := by omega
  have L2 : kN g 2 ≤ kN g' 2 := by omega
  obtain ⟨h1, h2, h3, h4, h5, h6, h7, h8, h9⟩ := hg
  refine ⟨fun k n hk => ?_, fun k n hk => ?_, fun z hz t n ht => ?_, fun d hd => ?_, fun s hs => ?_, fun x hx => ?_, fun t ht => ?_, fun e he => ?_, fun k hk => ?_⟩
  · have hl : k < 7 := (List.getElem?_eq_some_iff.mp hk).1
    by_cases q5 : k = 5
    · subst q5
      have hn : 60 = n := Option.some.inj (show some 60 = some n from hk)
      rw [← hn]; exact U5
    rw [E _ (by omega)]; exact h1 k n hk
  · have hl : k < 7 := (List.getElem?_eq_some_iff.mp hk).1
    rw [E _ (by omega)]; exact h2 k n hk
  · have hl : t < 3 := (List.getElem?_eq_some_iff.mp ht).1
    rw [E _ (by omega)]; exact h3 z hz t n ht
  · rw [N0] at hd
    obtain ⟨c0, c1, c2, c3, c4, c5⟩ := h4 d (by omega)
    exact ⟨by rw [E _ (by omega)]; exact c0, by rw [E _ (by omega)]; exact c1, by rw [E _ (by omega)]; exact c2, by rw [E _ (by omega)]; exact c3, by rw [E _ (by omega)]; exact c4, fun m hm => by rw [E _ (by omega)]; exact c5 m hm⟩
  · rw [N1] at hs
    obtain ⟨s0, s1, s2⟩ := h5 s (by omega)
    exact ⟨by rw [E _ (by omega)]; exact s0, by rw [E _ (by omega)]; exact s1, by rw [E _ (by omega)]; exact s2⟩
  · rw [N2] at hx
    obtain ⟨x0, x1, x2, x3, x4⟩ := h6 x (by omega)
    exact ⟨fun s hs => by rw [E _ (by omega)]; obtain ⟨c, q1, q2⟩ := x0 s hs; exact ⟨c, by omega, q2⟩, by rw [E _ (by omega)]; exact x1, by rw [E _ (by omega)]; exact x2, by rw [E _ (by omega)]; exact x3, fun s hs => by rw [E _ (by omega)]; obtain ⟨c, q1, q2⟩ := x4 s hs; exact ⟨c, Nat.lt_of_lt_of_le q1 (Nat.pow_le_pow_right (by decide) L1), q2⟩⟩
  · rw [N3] at ht
    obtain ⟨t0, t1, t2, t3⟩ := h7 t (by omega)
    have t4 := (t2.n (by omega)).2
    refine ⟨by rw [E _ (by omega)]; exact t0, by rw [E _ (by omega)]; exact t1, by rw [E _ (by omega)]; exact t2, ?_⟩
    rw [kc_N (E (468 + 66 * t + 2) (by omega)), kDep_c (f := fun k => g (468 + 66 * t + 3 + k)) (fun k hk => E _ (by unfold kN at hk; omega))]
    exact t3
  · rw [N4] at he
    obtain ⟨e0, e1, e2, e3, e4⟩ := h8 e (by omega)
    exact ⟨by rw [E _ (by omega)]; obtain ⟨c, q1, q2⟩ := e0; exact ⟨c, by omega, q2⟩, by rw [E _ (by omega)]; exact e1, by rw [E _ (by omega)]; exact e2, by rw [E _ (by omega)]; exact e3, by rw [E _ (by omega)]; exact e4⟩
  · rw [N5] at hk
    rw [E _ (by omega)]; exact h9 k (by omega)

theorem kRS.addTreaty {g g' : Nat → Int32} {u v : KMem} (h : kRS 1 g u) (hg : kGI g) (hn : kN g 3 < 10) (E : ∀ i, ¬ (i = 3 ∨ i = 5 ∨ (468 + 66 * kN g 3 ≤ i ∧ i < 534 + 66 * kN g 3)) → g' i = g i) (V : ∀ b k, ¬ ((b = 1 ∧ (k = 9 ∨ k = 15)) ∨ (1 + (132 + 2 * kN g 3) ≤ b ∧ b ≤ 1 + (132 + 2 * kN g 3 + 1))) → v.2.1 b k = u.2.1 b k) (C3 : v.2.1 1 9 = g' 3) (cn3 : kN g' 3 = kN g 3 + 1) (C5 : v.2.1 1 15 = g' 5) (cn5 : kN g' 5 = 0) (hp : kXTreaty 1 g' v (kN g 3)) : kRS 1 g' v := by
  have n0 := (hg.cnt (k := 0) rfl).2
  have n1 := (hg.cnt (k := 1) rfl).2
  have n2 := (hg.cnt (k := 2) rfl).2
  have n3 := (hg.cnt (k := 3) rfl).2
  have n4 := (hg.cnt (k := 4) rfl).2
  have n5 := (hg.cnt (k := 5) rfl).2
  have n6 := (hg.cnt (k := 6) rfl).2
  have N0 : kN g' 0 = kN g 0 := kc_N (E 0 (by omega))
  have N1 : kN g' 1 = kN g 1 := kc_N (E 1 (by omega))
  have N2 : kN g' 2 = kN g 2 := kc_N (E 2 (by omega))
  have N3 := cn3
  have N4 : kN g' 4 = kN g 4 := kc_N (E 4 (by omega))
  have N5 := cn5
  have N6 : kN g' 6 = kN g 6 := kc_N (E 6 (by omega))
  obtain ⟨⟨a0, a1, a2, a3, a4, a5, a6, a7⟩, h2, h3, h4, h5, h6, h7, h8, h9, h10⟩ := h
  refine ⟨⟨by rw [V _ _ (by omega), E _ (by omega)]; exact a0, by rw [V _ _ (by omega), E _ (by omega)]; exact a1, by rw [V _ _ (by omega), E _ (by omega)]; exact a2, C3, by rw [V _ _ (by omega), E _ (by omega)]; exact a4, C5, by rw [V _ _ (by omega), E _ (by omega)]; exact a6, by rw [V _ _ (by omega), E _ (by omega)]; exact a7⟩, fun k hk => ?_, fun z hz t ht => ?_, fun d hd => ?_, fun i hi => ?_, fun x hx => ?_, fun t ht => ?_, fun e he => ?_, fun k hk => ?_, fun k hk => ?_⟩
  · rw [V _ _ (by omega), E _ (by omega)]; exact h2 k hk
  · rw [V _ _ (by omega), E _ (by omega)]; exact h3 z hz t ht
  · rw [N0] at hd
    exact kc_cars (h4 d (by omega)) (fun f hf => E _ (by omega)) (fun b k q1 q2 => V b k (by omega))
  · rw [N1] at hi
    exact kc_shape (h5 i (by omega)) (fun f hf => E _ (by omega)) (fun b q1 q2 => V b i (by omega))
  · rw [N2] at hx
    have hx2 : x < kN g 2 := by omega
    have o0 := (hg.carOf hx2 (s := 0) (by omega)).2
    have o1 := (hg.carOf hx2 (s := 1) (by omega)).2
    refine kc_crash (h6 x hx2) (fun f hf => E _ (by omega)) (fun s hs => ?_) (fun b k q1 q2 => V b k (by omega))
    have o2 := (hg.carOf hx2 hs).2
    exact E _ (by omega)
  · rw [N3] at ht
    by_cases q : t = kN g 3
    · rw [q]; exact hp
    · have ht2 : t < kN g 3 := by omega
      exact kc_treaty (h7 t ht2) ((hg.2.2.2.2.2.2.1 t ht2).2.2.1.n (by omega)).2 (fun f hf => E _ (by omega)) (fun b k q1 q2 => V b k (by omega))
  · rw [N4] at he
    exact kc_entry (h8 e (by omega)) (fun i hi f hf => E _ (by omega)) (fun k => V _ k (by omega))
  · rw [N5] at hk
    rw [V _ _ (by omega), E _ (by omega)]; exact h9 k (by omega)
  · rw [N6] at hk
    rw [V _ _ (by omega), E _ (by omega)]; exact h10 k (by omega)

theorem kGI.addTreaty {g g' : Nat → Int32} (hg : kGI g) (hn : kN g 3 < 10) (E : ∀ i, ¬ (i = 3 ∨ i = 5 ∨ (468 + 66 * kN g 3 ≤ i ∧ i < 534 + 66 * kN g 3)) → g' i = g i) (U3 : kUp (g' 3) 10) (cn3 : kN g' 3 = kN g 3 + 1) (U5 : kUp (g' 5) 60) (cn5 : kN g' 5 = 0) (hp : kOkTreaty g' (kN g 3)) : kGI g' := by
  have n0 := (hg.cnt (k := 0) rfl).2
  have n1 := (hg.cnt (k := 1) rfl).2
  have n2 := (hg.cnt (k := 2) rfl).2
  have n3 := (hg.cnt (k := 3) rfl).2
  have n4 := (hg.cnt (k := 4) rfl).2
  have n5 := (hg.cnt (k := 5) rfl).2
  have n6 := (hg.cnt (k := 6) rfl).2
  have N0 : kN g' 0 = kN g 0 := kc_N (E 0 (by omega))
  have N1 : kN g' 1 = kN g 1 := kc_N (E 1 (by omega))
  have N2 : kN g' 2 = kN g 2 := kc_N (E 2 (by omega))
  have N3 := cn3
  have N4 : kN g' 4 = kN g 4 := kc_N (E 4 (by omega))
  have N5 := cn5
  have N6 : kN g' 6 = kN g 6 := kc_N (E 6 (by omega))
  have L0 : kN g 0 ≤ kN g' 0 := by omega
  have L1 : kN g 1 ≤ kN g' 1 := by omega
  have L2 : kN g 2 ≤ kN g' 2 := by omega
  obtain ⟨h1, h2, h3, h4, h5, h6, h7, h8, h9⟩ := hg
  refine ⟨fun k n hk => ?_, fun k n hk => ?_, fun z hz t n ht => ?_, fun d hd => ?_, fun s hs => ?_, fun x hx => ?_, fun t ht => ?_, fun e he => ?_, fun k hk => ?_⟩
  · have hl : k < 7 := (List.getElem?_eq_some_iff.mp hk).1
    by_cases q3 : k = 3
    · subst q3
      have hn : 10 = n := Option.some.inj (show some 10 = some n from hk)
      rw [← hn]; exact U3
    by_cases q5 : k = 5
    · subst q5
      have hn : 60 = n := Option.some.inj (show some 60 = some n from hk)
      rw [← hn]; exact U5
    rw [E _ (by omega)]; exact h1 k n hk
  · have hl : k < 7 := (List.getElem?_eq_some_iff.mp hk).1
    rw [E _ (by omega)]; exact h2 k n hk
  · have hl : t < 3 := (List.getElem?_eq_some_iff.mp ht).1
    rw [E _ (by omega)]; exact h3 z hz t n ht
  · rw [N0] at hd
    obtain ⟨c0, c1, c2, c3, c4, c5⟩ := h4 d (by omega)
    exact ⟨by rw [E _ (by omega)]; exact c0, by rw [E _ (by omega)]; exact c1, by rw [E _ (by omega)]; exact c2, by rw [E _ (by omega)]; exact c3, by rw [E _ (by omega)]; exact c4, fun m hm => by rw [E _ (by omega)]; exact c5 m hm⟩
  · rw [N1] at hs
    obtain ⟨s0, s1, s2⟩ := h5 s (by omega)
    exact ⟨by rw [E _ (by omega)]; exact s0, by rw [E _ (by omega)]; exact s1, by rw [E _ (by omega)]; exact s2⟩
  · rw [N2] at hx
    obtain ⟨x0, x1, x2, x3, x4⟩ := h6 x (by omega)
    exact ⟨fun s hs => by rw [E _ (by omega)]; obtain ⟨c, q1, q2⟩ := x0 s hs; exact ⟨c, by omega, q2⟩, by rw [E _ (by omega)]; exact x1, by rw [E _ (by omega)]; exact x2, by rw [E _ (by omega)]; exact x3, fun s hs => by rw [E _ (by omega)]; obtain ⟨c, q1, q2⟩ := x4 s hs; exact ⟨c, Nat.lt_of_lt_of_le q1 (Nat.pow_le_pow_right (by decide) L1), q2⟩⟩
  · rw [N3] at ht
    by_cases q : t = kN g 3
    · rw [q]; exact hp
    · obtain ⟨t0, t1, t2, t3⟩ := h7 t (by omega)
      have t4 := (t2.n (by omega)).2
      refine ⟨by rw [E _ (by omega)]; exact t0, by rw [E _ (by omega)]; exact t1, by rw [E _ (by omega)]; exact t2, ?_⟩
      rw [kc_N (E (468 + 66 * t + 2) (by omega)), kDep_c (f := fun k => g (468 + 66 * t + 3 + k)) (fun k hk => E _ (by unfold kN at hk; omega))]
      exact t3
  · rw [N4] at he
    obtain ⟨e0, e1, e2, e3, e4⟩ := h8 e (by omega)
    exact ⟨by rw [E _ (by omega)]; obtain ⟨c, q1, q2⟩ := e0; exact ⟨c, by omega, q2⟩, by rw [E _ (by omega)]; exact e1, by rw [E _ (by omega)]; exact e2, by rw [E _ (by omega)]; exact e3, by rw [E _ (by omega)]; exact e4⟩
  · rw [N5] at hk
    rw [E _ (by omega)]; exact h9 k (by omega)

