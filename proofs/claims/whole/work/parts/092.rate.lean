/-! A RATE CHANGES -/
theorem kRS.setRate {g : Nat → Int32} {u : KMem} (h : kRS 1 g u) (hg : kGI g) {j : Nat} (hj : j < 7) (p : Int32) : kRS 1 (kSet g (8 + j) p) (kv_si u 10 j p) := by
  have hc30 := (hg.cnt (k := 0) rfl).2
  have n1 := (hg.cnt (k := 1) rfl).2
  have n2 := (hg.cnt (k := 2) rfl).2
  have n3 := (hg.cnt (k := 3) rfl).2
  have n4 := (hg.cnt (k := 4) rfl).2
  have E : ∀ i, ¬ i = 8 + j → kSet g (8 + j) p i = g i := fun i hi => kSet_n hi
  have V : ∀ b k, ¬ b = 10 → (kv_si u 10 j p).2.1 b k = u.2.1 b k := fun b k q => kv_si_a q
  have N : ∀ k, k < 8 → kN (kSet g (8 + j) p) k = kN g k := fun k hk => kc_N (E k (by omega))
  refine ⟨kc_cnt h.1 (fun k hk => E k (by omega)) (fun k => V 1 k (by omega)), fun k hk => ?_, fun z hz t ht => ?_, fun d hd => ?_, fun i hi => ?_, fun x hx => ?_, fun t ht => ?_, fun e he => ?_, fun k hk => ?_, fun k hk => ?_⟩
  · by_cases q : k = j
    · subst q; rw [kSet_s]; exact kv_si_s _ _ _ _
    · rw [E _ (by omega)]; exact (kv_si_k q).trans (h.2.1 k hk)
  · rw [V _ _ (by omega), E _ (by omega)]; exact h.2.2.1 z hz t ht
  · rw [N 0 (by omega)] at hd
    exact kc_cars (h.2.2.2.1 d hd) (fun f hf => E _ (by omega)) (fun b k q1 q2 => V b k (by omega))
  · rw [N 1 (by omega)] at hi
    exact kc_shape (h.2.2.2.2.1 i hi) (fun f hf => E _ (by omega)) (fun b q1 q2 => V b i (by omega))
  · rw [N 2 (by omega)] at hx
    exact kc_crash (h.2.2.2.2.2.1 x hx) (fun f hf => E _ (by omega)) (fun s hs => E _ (by omega)) (fun b k q1 q2 => V b k (by omega))
  · rw [N 3 (by omega)] at ht
    exact kc_treaty (h.2.2.2.2.2.2.1 t ht) ((hg.2.2.2.2.2.2.1 t ht).2.2.1.n (by omega)).2 (fun f hf => E _ (by omega)) (fun b k q1 q2 => V b k (by omega))
  · rw [N 4 (by omega)] at he
    exact kc_entry (h.2.2.2.2.2.2.2.1 e he) (fun i hi f hf => E _ (by omega)) (fun k => V _ k (by omega))
  · rw [N 5 (by omega)] at hk
    rw [V _ _ (by omega), E _ (by omega)]; exact h.2.2.2.2.2.2.2.2.1 k hk
  · rw [N 6 (by omega)] at hk
    rw [V _ _ (by omega), E _ (by omega)]; exact h.2.2.2.2.2.2.2.2.2 k hk
