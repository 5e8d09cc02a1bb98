/-! THE ACTS: the ranges stand behind each; one act of class and model -/
theorem kGI.setDraw {g : Nat → Int32} (h : kGI g) (p : Int32) : kGI (kSet g 7 p) := by
  have hc30 := (h.cnt (k := 0) rfl).2
  have E : ∀ i, ¬ i = 7 → kSet g 7 p i = g i := fun i hi => kSet_n hi
  have N : ∀ k, k < 7 → kN (kSet g 7 p) k = kN g k := fun k hk => kc_N (E k (by omega))
  obtain ⟨h1, h2, h3, h4, h5, h6, h7, h8, h9⟩ := h
  refine ⟨fun k n hk => ?_, fun k n hk => ?_, fun z hz t n ht => ?_, fun d hd => ?_, fun s hs => ?_, fun x hx => ?_, fun t ht => ?_, fun e he => ?_, fun k hk => ?_⟩
  · have hl : k < 7 := (List.getElem?_eq_some_iff.mp hk).1
    rw [E _ (by omega)]; exact h1 k n hk
  · rw [E _ (by omega)]; exact h2 k n hk
  · rw [E _ (by omega)]; exact h3 z hz t n ht
  · rw [N 0 (by omega)] at hd
    obtain ⟨c0, c1, c2, c3, c4, c5⟩ := h4 d hd
    exact ⟨by rw [E _ (by omega)]; exact c0, by rw [E _ (by omega)]; exact c1, by rw [E _ (by omega)]; exact c2, by rw [E _ (by omega)]; exact c3, by rw [E _ (by omega)]; exact c4, fun m hm => by rw [E _ (by omega)]; exact c5 m hm⟩
  · rw [N 1 (by omega)] at hs
    obtain ⟨s0, s1, s2⟩ := h5 s hs
    exact ⟨by rw [E _ (by omega)]; exact s0, by rw [E _ (by omega)]; exact s1, by rw [E _ (by omega)]; exact s2⟩
  · rw [N 2 (by omega)] at hx
    obtain ⟨x0, x1, x2, x3, x4⟩ := h6 x hx
    exact ⟨fun s hs => by rw [E _ (by omega), N 0 (by omega)]; exact x0 s hs, by rw [E _ (by omega)]; exact x1, by rw [E _ (by omega)]; exact x2, by rw [E _ (by omega)]; exact x3, fun s hs => by rw [E _ (by omega), N 1 (by omega)]; exact x4 s hs⟩
  · rw [N 3 (by omega)] at ht
    obtain ⟨t0, t1, t2, t3⟩ := h7 t ht
    refine ⟨by rw [E _ (by omega)]; exact t0, by rw [E _ (by omega)]; exact t1, by rw [E _ (by omega)]; exact t2, ?_⟩
    rw [kc_N (E (468 + 66 * t + 2) (by omega)), show (fun k => kSet g 7 p (468 + 66 * t + 3 + k)) = fun k => g (468 + 66 * t + 3 + k) from funext fun k => E _ (by omega)]
    exact t3
  · rw [N 4 (by omega)] at he
    obtain ⟨e0, e1, e2, e3, e4⟩ := h8 e he
    exact ⟨by rw [E _ (by omega), N 2 (by omega)]; exact e0, by rw [E _ (by omega)]; exact e1, by rw [E _ (by omega)]; exact e2, by rw [E _ (by omega)]; exact e3, by rw [E _ (by omega)]; exact e4⟩
  · rw [N 5 (by omega)] at hk
    rw [E _ (by omega)]; exact h9 k hk
theorem kdraws_ok {a : KA} (ho : kOk a) (p0 : Int32) : kOk (kdraws a p0).2 := ho.now (ho.1.setDraw p0)
theorem kOut.bm {p : Int32} {n : Nat} (hn : n < 2147483648) (h : ¬ kOut p (-1) (nI n)) : p = -1 ∨ kUp p n := by
  by_cases q : p < 0
  · refine Or.inl ?_
    have h1 : ¬ p < -1 := fun z => h (Or.inl z)
    refine Int32.le_antisymm ?_ (Int32.not_lt.mp h1)
    have z : p.toInt < 0 := Int32.lt_iff_toInt_lt.mp q
    exact Int32.le_iff_toInt_le.mpr (by show p.toInt ≤ -1; omega)
  · refine Or.inr (kOut.bd hn (fun z => z.elim q (fun z => h (Or.inr z))))
theorem kmark_ok {a : KA} (ho : kOk a) (p0 p1 p2 : Int32) : kOk (kmark a p0 p1 p2).2 := by
  unfold kmark
  split
  · exact ho.fnd 1
  · rename_i h
    obtain ⟨c, hc, rfl⟩ := ho.1.at (k := 0) rfl (fun q => h (Or.inl q))
    obtain ⟨j, hj, rfl⟩ := kOut.bd (n := 2) (by omega) (fun q => h (Or.inr (Or.inl q)))
    have hc30 := (ho.1.cnt (k := 0) rfl).2
    rw [nI_clamp (by omega), nI_clamp (by omega)]
    exact ho.now (ho.1.setMark hc (by omega) (kOut.bm (n := 99) (by omega) (fun q => h (Or.inr (Or.inr q)))))
theorem kcarIs_ok {a : KA} (ho : kOk a) (p0 p1 : Int32) : kOk (kcarIs a p0 p1).2 := by
  unfold kcarIs
  repeat' split
  all_goals first | exact ho | exact ho.fnd _
theorem kcrashIs_ok {a : KA} (ho : kOk a) (p0 p1 : Int32) : kOk (kcrashIs a p0 p1).2 := by
  unfold kcrashIs
  repeat' split
  all_goals first | exact ho | exact ho.fnd _
theorem kworth_ok {a : KA} (ho : kOk a) (p0 p1 p2 : Int32) : kOk (kworth a p0 p1 p2).2 := by
  unfold kworth
  repeat' split
  all_goals first | exact ho | exact ho.fnd _
theorem kback_ok {a : KA} (ho : kOk a) (p0 p1 p2 : Int32) : kOk (kback a p0 p1 p2).2 := by
  unfold kback
  repeat' split
  all_goals first | exact ho | exact ho.fnd _
theorem kforce_ok {a : KA} (ho : kOk a) (p0 p1 : Int32) : kOk (kforce a p0 p1).2 := by
  unfold kforce
  repeat' split
  all_goals first | exact ho | exact ho.fnd _
theorem ksays_ok {a : KA} (ho : kOk a) (p0 p1 p2 p3 p4 : Int32) : kOk (ksays a p0 p1 p2 p3 p4).2 := by
  unfold ksays
  repeat' split
  all_goals first | exact ho | exact ho.fnd _
theorem kentryIs_ok {a : KA} (ho : kOk a) (p0 p1 : Int32) : kOk (kentryIs a p0 p1).2 := by
  unfold kentryIs
  repeat' split
  all_goals first | exact ho | exact ho.fnd _
theorem ktrace_ok {a : KA} (ho : kOk a) (p0 : Int32) : kOk (ktrace a p0).2 := by
  unfold ktrace
  repeat' split
  all_goals first | exact ho | exact ho.fnd _
theorem ktold_ok {a : KA} (ho : kOk a) (p0 : Int32) : kOk (ktold a p0).2 := by
  unfold ktold
  repeat' split
  all_goals first | exact ho | exact ho.fnd _
/-- class and model of one state -/
def kBoth (a : KA) (u : KMem) : Prop := kWd u ∧ kRX a u ∧ kRM a u ∧ kOk a
theorem kBoth.x {a a2 : KA} {u v : KMem} {x : Int32} {r : Option Value} (h : kBoth a u) (q : kOX u x a2 r v) : r = some (.int x) ∧ kWd v ∧ kRX a2 v ∧ kRM a v := ⟨q.1, q.2.1, q.2.2.2, h.2.2.1.of q.2.2.1⟩
theorem kBoth.m {a2 : KA} {u v : KMem} {x : Int32} {r : Option Value} (hx : kRX a2 u) (ho : kOk a2) (q : kOM u x a2 r v) : r = some (.int x) ∧ kBoth a2 v := ⟨q.1, q.2.1, hx.of ho (fun b k hb _ => by rw [q.2.2.1 b hb]), q.2.2.2, ho⟩
theorem qX11_draws_o {w : KW} {l : Launch} {u : KMem} (hu : kWd u) {a : KA} (hx : kRX a u) (ho : kOk a) (p0 : Int32) : KC w l mX11_draws 0 0 0 [.ref 0, .int p0] u (kOX u (kdraws a p0).1 (kdraws a p0).2) := (qX11_draws hu p0).post (fun r v q => by obtain ⟨rfl, rfl⟩ := q; exact kX_draws hx ho hu p0)
theorem qX12_draws_o {w : KW} {l : Launch} {u : KMem} (hu : kWd u) {a : KA} (hm : kRM a u) (ho : kOk a) (p0 : Int32) : KC w l mX12_draws 1 0 0 [.ref 413, .int p0] u (kOM u (kdraws a p0).1 (kdraws a p0).2) := (qX12_draws hu p0).post (fun r v q => by obtain ⟨rfl, rfl⟩ := q; exact kM_draws hm hu p0)
