/-! WHAT IS DRAWN LAST CHANGES -/
theorem kRS.setDraw {g : Nat → Int32} {u : KMem} (h : kRS 1 g u) (hg : kGI g) (p : Int32) : kRS 1 (kSet g 7 p) (kv_si u 1 18 p) := by
  have hc30 := (hg.cnt (k := 0) rfl).2
  have n1 := (hg.cnt (k := 1) rfl).2
  have n2 := (hg.cnt (k := 2) rfl).2
  have n3 := (hg.cnt (k := 3) rfl).2
  have n4 := (hg.cnt (k := 4) rfl).2
  have E : ∀ i, ¬ i = 7 → kSet g 7 p i = g i := fun i hi => kSet_n hi
  have V : ∀ b k, ¬ b = 1 → (kv_si u 1 18 p).2.1 b k = u.2.1 b k := fun b k q => kv_si_a q
  have W : ∀ k, ¬ k = 18 → (kv_si u 1 18 p).2.1 1 k = u.2.1 1 k := fun k q => kv_si_k q
  have N : ∀ k, k < 7 → kN (kSet g 7 p) k = kN g k := fun k hk => kc_N (E k (by omega))
  obtain ⟨⟨a1, a2, a3, a4, a5, a6, a7, a8⟩, h2, h3, h4, h5, h6, h7, h8, h9, h10⟩ := h
  refine ⟨⟨by rw [W _ (by omega), E _ (by omega)]; exact a1, by rw [W _ (by omega), E _ (by omega)]; exact a2, by rw [W _ (by omega), E _ (by omega)]; exact a3, by rw [W _ (by omega), E _ (by omega)]; exact a4, by rw [W _ (by omega), E _ (by omega)]; exact a5, by rw [W _ (by omega), E _ (by omega)]; exact a6, by rw [W _ (by omega), E _ (by omega)]; exact a7, by rw [kv_si_s, kSet_s]⟩, fun k hk => ?_, fun z hz t ht => ?_, fun d hd => ?_, fun i hi => ?_, fun x hx => ?_, fun t ht => ?_, fun e he => ?_, fun k hk => ?_, fun k hk => ?_⟩
  · rw [V _ _ (by omega), E _ (by omega)]; exact h2 k hk
  · rw [V _ _ (by omega), E _ (by omega)]; exact h3 z hz t ht
  · rw [N 0 (by omega)] at hd
    exact kc_cars (h4 d hd) (fun f hf => E _ (by omega)) (fun b k q1 q2 => V b k (by omega))
  · rw [N 1 (by omega)] at hi
    exact kc_shape (h5 i hi) (fun f hf => E _ (by omega)) (fun b q1 q2 => V b i (by omega))
  · rw [N 2 (by omega)] at hx
    exact kc_crash (h6 x hx) (fun f hf => E _ (by omega)) (fun s hs => E _ (by omega)) (fun b k q1 q2 => V b k (by omega))
  · rw [N 3 (by omega)] at ht
    exact kc_treaty (h7 t ht) ((hg.2.2.2.2.2.2.1 t ht).2.2.1.n (by omega)).2 (fun f hf => E _ (by omega)) (fun b k q1 q2 => V b k (by omega))
  · rw [N 4 (by omega)] at he
    exact kc_entry (h8 e he) (fun i hi f hf => E _ (by omega)) (fun k => V _ k (by omega))
  · rw [N 5 (by omega)] at hk
    rw [V _ _ (by omega), E _ (by omega)]; exact h9 k hk
  · rw [N 6 (by omega)] at hk
    rw [V _ _ (by omega), E _ (by omega)]; exact h10 k hk
def kdraws (a : KA) (p0 : Int32) : Int32 × KA := (a 0 7, kUp1 a 0 (kSet (a 0) 7 p0))
theorem kX_draws {a : KA} {u : KMem} (hx : kRX a u) (ho : kOk a) (hu : kWd u) (p0 : Int32) : kOX u (kdraws a p0).1 (kdraws a p0).2 (some (.int (u.2.1 1 18))) (kv_si u 1 18 p0) :=
  ⟨by rw [hx.1.n7]; rfl, hu, fun b hb => kv_si_row (by omega), hx.now ho (hx.1.setDraw ho.1 p0) (fun b k hb _ => kv_si_a (by omega))⟩
theorem kM_draws {a : KA} {u : KMem} (hm : kRM a u) (hu : kWd u) (p0 : Int32) : kOM u (kdraws a p0).1 (kdraws a p0).2 (some (.int (u.2.1 414 7))) (kv_si u 414 7 p0) :=
  ⟨by rw [hm.1]; rfl, hu, fun b hb => kv_si_row (by omega), hm.now (by rw [kv_si_set, hm.1]) (fun b hb => kv_si_row (by omega)) (kv_si_row (by omega))⟩
