/-! THE RANGES STAND when a mark changes, when a draw changes -/
theorem kGI.setMark {g : Nat → Int32} (h : kGI g) {c j : Nat} {p : Int32} (hc : c < kN g 0) (hj : j < 3) (hp : p = -1 ∨ kUp p 99) : kGI (kSet g (40 + 8 * c + 5 + j) p) := by
  have hc30 := (h.cnt (k := 0) rfl).2
  have n1 := (h.cnt (k := 1) rfl).2
  have E : ∀ i, ¬ i = 40 + 8 * c + 5 + j → kSet g (40 + 8 * c + 5 + j) p i = g i := fun i hi => kSet_n hi
  have N : ∀ k, k < 8 → kN (kSet g (40 + 8 * c + 5 + j) p) k = kN g k := fun k hk => kc_N (E k (by omega))
  obtain ⟨h1, h2, h3, h4, h5, h6, h7, h8, h9⟩ := h
  refine ⟨fun k n hk => ?_, fun k n hk => ?_, fun z hz t n ht => ?_, fun d hd => ?_, fun s hs => ?_, fun x hx => ?_, fun t ht => ?_, fun e he => ?_, fun k hk => ?_⟩
  · have hl : k < 7 := (List.getElem?_eq_some_iff.mp hk).1
    rw [E _ (by omega)]; exact h1 k n hk
  · have hl : k < 7 := (List.getElem?_eq_some_iff.mp hk).1
    rw [E _ (by omega)]; exact h2 k n hk
  · have hl : t < 3 := (List.getElem?_eq_some_iff.mp ht).1
    rw [E _ (by omega)]; exact h3 z hz t n ht
  · rw [N 0 (by omega)] at hd
    obtain ⟨c0, c1, c2, c3, c4, c5⟩ := h4 d hd
    refine ⟨by rw [E _ (by omega)]; exact c0, by rw [E _ (by omega)]; exact c1, by rw [E _ (by omega)]; exact c2, by rw [E _ (by omega)]; exact c3, by rw [E _ (by omega)]; exact c4, fun m hm => ?_⟩
    by_cases q : 40 + 8 * d + (5 + m) = 40 + 8 * c + 5 + j
    · rw [q, kSet_s]; exact hp
    · rw [E _ q]; exact c5 m hm
  · rw [N 1 (by omega)] at hs
    obtain ⟨s0, s1, s2⟩ := h5 s hs
    exact ⟨by rw [E _ (by omega)]; exact s0, by rw [E _ (by omega)]; exact s1, by rw [E _ (by omega)]; exact s2⟩
  · rw [N 2 (by omega)] at hx
    obtain ⟨x0, x1, x2, x3, x4⟩ := h6 x hx
    exact ⟨fun s hs => by rw [E _ (by omega), N 0 (by omega)]; exact x0 s hs, by rw [E _ (by omega)]; exact x1, by rw [E _ (by omega)]; exact x2, by rw [E _ (by omega)]; exact x3, fun s hs => by rw [E _ (by omega), N 1 (by omega)]; exact x4 s hs⟩
  · rw [N 3 (by omega)] at ht
    obtain ⟨t0, t1, t2, t3⟩ := h7 t ht
    refine ⟨by rw [E _ (by omega)]; exact t0, by rw [E _ (by omega)]; exact t1, by rw [E _ (by omega)]; exact t2, ?_⟩
    rw [kc_N (E (468 + 66 * t + 2) (by omega)), show (fun k => kSet g (40 + 8 * c + 5 + j) p (468 + 66 * t + 3 + k)) = fun k => g (468 + 66 * t + 3 + k) from funext fun k => E _ (by omega)]
    exact t3
  · rw [N 4 (by omega)] at he
    obtain ⟨e0, e1, e2, e3, e4⟩ := h8 e he
    exact ⟨by rw [E _ (by omega), N 2 (by omega)]; exact e0, by rw [E _ (by omega)]; exact e1, by rw [E _ (by omega)]; exact e2, by rw [E _ (by omega)]; exact e3, by rw [E _ (by omega)]; exact e4⟩
  · rw [N 5 (by omega)] at hk
    rw [E _ (by omega)]; exact h9 k hk
theorem kOk.now {a : KA} (h : kOk a) {f : Nat → Int32} (hf : kGI f) : kOk (kUp1 a 0 f) := ⟨hf, h.2.1, h.2.2.1, h.2.2.2⟩
