/-! BOUNDS THAT BOTH ASK FOR -/
abbrev kOut (p lo hi : Int32) : Prop := p < lo ∨ ¬ p ≤ hi
theorem kIn_y {p lo hi : Int32} (h : ¬ p < lo ∧ ¬ hi < p) : ¬ kOut p lo hi := fun q => q.elim h.1 (fun q => q (kNl h.2))
theorem kIn_n {p lo hi : Int32} (h : ¬ (¬ p < lo ∧ ¬ hi < p)) : kOut p lo hi := by
  by_cases q : p < lo
  · exact Or.inl q
  · refine Or.inr (fun z => h ⟨q, fun y => ?_⟩)
    exact kLn y z
theorem kGI.at {g : Nat → Int32} (hg : kGI g) {k n : Nat} (hk : kCap[k]? = some n) {p : Int32} (h : ¬ kOut p 0 (g k - 1)) : ∃ c, c < kN g k ∧ p = nI c := by
  have h1 := hg.cnt hk
  have h2 : n ≤ 60 := by
    have q : ∀ j : Fin 7, kCap.getD j.val 0 ≤ 60 := by decide
    have hl : k < 7 := (List.getElem?_eq_some_iff.mp hk).1
    have := q ⟨k, hl⟩
    rw [List.getD_eq_getElem?_getD, hk] at this
    exact this
  rw [h1.1] at h
  exact kn_in (by omega) h
theorem kOut.bd {p : Int32} {n : Nat} (hn : n < 2147483648) (h : ¬ kOut p 0 (nI n)) : ∃ j, j ≤ n ∧ p = nI j := kn_bd hn h
theorem kOut.i {p : Int32} {lo hi : Int32} (h : ¬ kOut p lo hi) : lo.toInt ≤ p.toInt ∧ p.toInt ≤ hi.toInt := by
  have h1 : ¬ p < lo := fun q => h (Or.inl q)
  have h2 : p ≤ hi := Classical.byContradiction fun q => h (Or.inr q)
  rw [kLt] at h1
  rw [kLe] at h2
  omega
/-! ### carIs, mark -/
def kCarV (g : Nat → Int32) (c : Nat) (p1 : Int32) : Int32 := if p1 = 5 then kBook g c else if p1 < 5 then g (40 + 8 * c + p1.toNatClampNeg) else g (40 + 8 * c + (p1.toNatClampNeg - 1))
def kcarIs (a : KA) (p0 p1 : Int32) : Int32 × KA := if kOut p0 0 (a 0 0 - 1) ∨ kOut p1 0 8 then (-1000001, kF a 1) else (kCarV (a 0) p0.toNatClampNeg p1, a)
def kmark (a : KA) (p0 p1 p2 : Int32) : Int32 × KA :=
  if kOut p0 0 (a 0 0 - 1) ∨ kOut p1 0 2 ∨ kOut p2 (-1) 99 then (-1000001, kF a 1)
  else (a 0 (40 + 8 * p0.toNatClampNeg + 5 + p1.toNatClampNeg), kUp1 a 0 (kSet (a 0) (40 + 8 * p0.toNatClampNeg + 5 + p1.toNatClampNeg) p2))
