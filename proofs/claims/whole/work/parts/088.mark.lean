/-! A MARK CHANGES -/
theorem kRS.setMark {g : Nat → Int32} {u : KMem} (h : kRS 1 g u) (hg : kGI g) {c j : Nat} (hc : c < kN g 0) (hj : j < 3) (p : Int32) : kRS 1 (kSet g (40 + 8 * c + 5 + j) p) (kv_si u (1 + (12 + 2 * c + 1)) j p) := by
  have hc30 := (hg.cnt (k := 0) rfl).2
  have n1 := (hg.cnt (k := 1) rfl).2
  have n2 := (hg.cnt (k := 2) rfl).2
  have n3 := (hg.cnt (k := 3) rfl).2
  have n4 := (hg.cnt (k := 4) rfl).2
  have n5 := (hg.cnt (k := 5) rfl).2
  have n6 := (hg.cnt (k := 6) rfl).2
  have E : ∀ i, ¬ i = 40 + 8 * c + 5 + j → kSet g (40 + 8 * c + 5 + j) p i = g i := fun i hi => kSet_n hi
  have V : ∀ b k, ¬ b = 1 + (12 + 2 * c + 1) → (kv_si u (1 + (12 + 2 * c + 1)) j p).2.1 b k = u.2.1 b k := fun b k q => kv_si_a q
  have N : ∀ k, k < 8 → kN (kSet g (40 + 8 * c + 5 + j) p) k = kN g k := fun k hk => kc_N (E k (by omega))
  refine ⟨kc_cnt h.1 (fun k hk => E k (by omega)) (fun k => V 1 k (by omega)), fun k hk => ?_, fun z hz t ht => ?_, fun d hd => ?_, fun i hi => ?_, fun x hx => ?_, fun t ht => ?_, fun e he => ?_, fun k hk => ?_, fun k hk => ?_⟩
  · rw [V _ _ (by omega), E _ (by omega)]; exact h.2.1 k hk
  · rw [V _ _ (by omega), E _ (by omega)]; exact h.2.2.1 z hz t ht
  · rw [N 0 (by omega)] at hd
    by_cases q : d = c
    · subst q
      refine ⟨fun f hf => ?_, fun m hm => ?_⟩
      · rw [V _ _ (by omega), E _ (by omega)]; exact (h.2.2.2.1 d hd).1 f hf
      · by_cases qm : m = j
        · subst qm
          rw [kv_si_s, show 40 + 8 * d + (5 + m) = 40 + 8 * d + 5 + m by omega, kSet_s]
        · rw [kv_si_k qm, E _ (by omega)]; exact (h.2.2.2.1 d hd).2 m hm
    · exact kc_cars (h.2.2.2.1 d hd) (fun f hf => E _ (by omega)) (fun b k q1 q2 => V b k (by omega))
  · rw [N 1 (by omega)] at hi
    exact kc_shape (h.2.2.2.2.1 i hi) (fun f hf => E _ (by omega)) (fun b q1 q2 => V b i (by omega))
  · rw [N 2 (by omega)] at hx
    exact kc_crash (h.2.2.2.2.2.1 x hx) (fun f hf => E _ (by omega)) (fun s hs => E _ (by omega)) (fun b k q1 q2 => V b k (by omega))
  · rw [N 3 (by omega)] at ht
    exact kc_treaty (h.2.2.2.2.2.2.1 t ht) ((hg.2.2.2.2.2.2.1 t ht).2.2.1.n (by omega)).2 (fun f hf => E _ (by omega)) (fun b k q1 q2 => V b k (by omega))
  · rw [N 4 (by omega)] at he
    exact kc_entry (h.2.2.2.2.2.2.2.1 e he) (fun i hi f hf => E _ (by omega)) (fun k => V _ k (by omega))
  · rw [N 5 (by omega)] at hk
    rw [V _ _ (by omega), E _ (by omega)]; exact h.2.2.2.2.2.2.2.2.1 k hk
  · rw [N 6 (by omega)] at hk
    rw [V _ _ (by omega), E _ (by omega)]; exact h.2.2.2.2.2.2.2.2.2 k hk
