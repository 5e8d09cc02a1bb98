/-! THE REGIONS OF `now`: what stays when another region changes -/
section KREG
variable {g g' : Nat → Int32} {u v : KMem}
theorem kc_N {k : Nat} (h : g' k = g k) : kN g' k = kN g k := by unfold kN; rw [h]
theorem kc_car {x s : Nat} (h : g' (328 + 7 * x + s) = g (328 + 7 * x + s)) : kCarOf g' x s = kCarOf g x s := by unfold kCarOf; rw [h]
theorem kc_fr2 {x : Nat} (h : ∀ f, f < 5 → g' (328 + 7 * x + f) = g (328 + 7 * x + f)) (ho : ∀ s, s < 2 → g' (40 + 8 * kCarOf g x s + 4) = g (40 + 8 * kCarOf g x s + 4)) : kFr2 g' x = kFr2 g x := by
  unfold kFr2
  rw [kc_car (h 0 (by decide)), kc_car (h 1 (by decide)), h 4 (by decide), ho 0 (by decide), ho 1 (by decide)]
theorem kc_fstA {e : Nat} (h : ∀ i, i ≤ e → ∀ f, f < 2 → g' (1128 + 5 * i + f) = g (1128 + 5 * i + f)) : ∀ n i, i + n ≤ e → kFstA g' e n i = kFstA g e n i
  | 0, _, _ => rfl
  | n + 1, i, hi => by
    unfold kFstA
    rw [h i (by omega) 0 (by decide), h i (by omega) 1 (by decide), h e (by omega) 0 (by decide), h e (by omega) 1 (by decide), kc_fstA h n (i + 1) (by omega)]
theorem kc_fst {e : Nat} (h : ∀ i, i ≤ e → ∀ f, f < 2 → g' (1128 + 5 * i + f) = g (1128 + 5 * i + f)) : kFst g' e = kFst g e := kc_fstA h e 0 (by omega)
theorem kc_cnt (h : kXCnt 1 g u) (hg : ∀ k, k < 8 → g' k = g k) (hv : ∀ k, v.2.1 1 k = u.2.1 1 k) : kXCnt 1 g' v := by
  obtain ⟨h1, h2, h3, h4, h5, h6, h7, h8⟩ := h
  exact ⟨by rw [hv, hg _ (by omega)]; exact h1, by rw [hv, hg _ (by omega)]; exact h2, by rw [hv, hg _ (by omega)]; exact h3, by rw [hv, hg _ (by omega)]; exact h4, by rw [hv, hg _ (by omega)]; exact h5, by rw [hv, hg _ (by omega)]; exact h6, by rw [hv, hg _ (by omega)]; exact h7, by rw [hv, hg _ (by omega)]; exact h8⟩
theorem kc_cars {c : Nat} (h : kXCar 1 g u c) (hg : ∀ f, f < 8 → g' (40 + 8 * c + f) = g (40 + 8 * c + f)) (hv : ∀ b k, 1 + (12 + 2 * c) ≤ b → b ≤ 1 + (12 + 2 * c + 1) → v.2.1 b k = u.2.1 b k) : kXCar 1 g' v c :=
  ⟨fun f hf => by rw [hv _ _ (by omega) (by omega), hg f (by omega)]; exact h.1 f hf, fun m hm => by rw [hv _ _ (by omega) (by omega), hg (5 + m) (by omega)]; exact h.2 m hm⟩
theorem kc_shape {i : Nat} (h : kXShape 1 g u i) (hg : ∀ f, f < 3 → g' (280 + 3 * i + f) = g (280 + 3 * i + f)) (hv : ∀ b, 3 ≤ b → b ≤ 5 → v.2.1 b i = u.2.1 b i) : kXShape 1 g' v i := by
  have h0 : g' (280 + 3 * i) = g (280 + 3 * i) := hg 0 (by decide)
  refine ⟨?_, ?_, ?_⟩
  · rw [hv _ (by omega) (by omega), h0]; exact h.1
  · rw [hv _ (by omega) (by omega), h0, hg 1 (by decide)]; exact h.2.1
  · rw [hv _ (by omega) (by omega), hg 2 (by decide)]; exact h.2.2
theorem kc_crash {x : Nat} (h : kXCrash 1 g u x) (hg : ∀ f, f < 7 → g' (328 + 7 * x + f) = g (328 + 7 * x + f)) (ho : ∀ s, s < 2 → g' (40 + 8 * kCarOf g x s + 4) = g (40 + 8 * kCarOf g x s + 4)) (hv : ∀ b k, 1 + (72 + 3 * x) ≤ b → b ≤ 1 + (72 + 3 * x + 2) → v.2.1 b k = u.2.1 b k) : kXCrash 1 g' v x := by
  obtain ⟨h1, h2, h3, h4, h5⟩ := h
  refine ⟨fun q hq => ?_, fun q hq => ?_, ?_, ?_, ?_⟩
  · rw [hv _ _ (by omega) (by omega), hg q (by omega)]; exact h1 q hq
  · rw [hv _ _ (by omega) (by omega), hg (5 + q) (by omega)]; exact h2 q hq
  · rw [hv _ _ (by omega) (by omega), hg 2 (by omega)]; exact h3
  · rw [hv _ _ (by omega) (by omega), hg 3 (by omega)]; exact h4
  · rw [hv _ _ (by omega) (by omega), kc_fr2 (fun f hf => hg f (by omega)) ho]; exact h5
theorem kc_treaty {t : Nat} (h : kXTreaty 1 g u t) (h60 : kN g (468 + 66 * t + 2) ≤ 60) (hg : ∀ f, f < 66 → g' (468 + 66 * t + f) = g (468 + 66 * t + f)) (hv : ∀ b k, 1 + (132 + 2 * t) ≤ b → b ≤ 1 + (132 + 2 * t + 1) → v.2.1 b k = u.2.1 b k) : kXTreaty 1 g' v t := by
  obtain ⟨h1, h2, h3, h4⟩ := h
  have h0 : g' (468 + 66 * t) = g (468 + 66 * t) := hg 0 (by decide)
  refine ⟨?_, ?_, ?_, fun k hk => ?_⟩
  · rw [hv _ _ (by omega) (by omega), hg 2 (by omega)]; exact h1
  · rw [hv _ _ (by omega) (by omega), h0]; exact h2
  · rw [hv _ _ (by omega) (by omega), hg 1 (by omega)]; exact h3
  · rw [kc_N (hg 2 (by omega))] at hk
    have := hg (3 + k) (by omega)
    rw [show 468 + 66 * t + (3 + k) = 468 + 66 * t + 3 + k by omega] at this
    rw [hv _ _ (by omega) (by omega), this]; exact h4 k hk
theorem kc_entry {e : Nat} (h : kXEntry 1 g u e) (hg : ∀ i, i ≤ e → ∀ f, f < 5 → g' (1128 + 5 * i + f) = g (1128 + 5 * i + f)) (hv : ∀ k, v.2.1 (1 + (152 + e)) k = u.2.1 (1 + (152 + e)) k) : kXEntry 1 g' v e :=
  ⟨fun f hf => by rw [hv, hg e (by omega) f hf]; exact h.1 f hf, by rw [hv, kc_fst (fun i hi f hf => hg i hi f (by omega))]; exact h.2⟩
end KREG
