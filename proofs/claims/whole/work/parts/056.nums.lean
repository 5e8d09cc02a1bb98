/-! numbers of places -/
theorem kn_add {a b : Int32} {i j : Nat} (h1 : a = nI i) (h2 : b = nI j) : a + b = nI (i + j) := by rw [h1, h2, nI_add]
theorem kn_mul {a b : Int32} {i j : Nat} (h1 : a = nI i) (h2 : b = nI j) : a * b = nI (i * j) := by rw [h1, h2, pk_mul]
theorem kn_sub {a b : Int32} {i j : Nat} (h1 : a = nI i) (h2 : b = nI j) (h : j ≤ i) : a - b = nI (i - j) := by rw [h1, h2, pk_sub h]
theorem kn_in {x : Int32} {n : Nat} (hn : n < 2147483648) (h : ¬ (x < 0 ∨ ¬ x ≤ nI n - 1)) : ∃ j, j < n ∧ x = nI j := by
  obtain ⟨j, hj, rfl⟩ := nI_of (fun q => h (Or.inl q))
  refine ⟨j, ?_, rfl⟩
  have h2 : nI j ≤ nI n - 1 := Classical.byContradiction fun q => h (Or.inr q)
  have h3 := Int32.le_iff_toInt_le.mp h2
  rcases Nat.eq_zero_or_pos n with h0 | h0
  · subst h0
    rw [nI_toInt hj] at h3
    have : (nI 0 - 1).toInt = -1 := by decide
    omega
  · rw [show nI n - 1 = nI (n - 1) from kn_sub rfl rfl h0, nI_toInt hj, nI_toInt (by omega)] at h3
    omega
/-- a number between two bounds -/
theorem kn_bd {x : Int32} {n : Nat} (hn : n < 2147483648) (h : ¬ (x < 0 ∨ ¬ x ≤ nI n)) : ∃ j, j ≤ n ∧ x = nI j := by
  obtain ⟨j, hj, rfl⟩ := nI_of (fun q => h (Or.inl q))
  refine ⟨j, ?_, rfl⟩
  have h2 : nI j ≤ nI n := Classical.byContradiction fun q => h (Or.inr q)
  exact (nI_leI hj hn).mp h2
theorem kn_eq {a b : Nat} (ha : a < 2147483648) (hb : b < 2147483648) : nI a = nI b ↔ a = b := nI_eq ha hb
/-- going down from the end of a loop -/
theorem kn_down {P : Nat → Prop} {n : Nat} (h : P n) (hs : ∀ i, i < n → P (i + 1) → P i) : ∀ k, k ≤ n → P (n - k) := by
  intro k
  induction k with
  | zero => intro _; exact h
  | succ k ih =>
    intro hk
    have := ih (by omega)
    exact hs (n - (k + 1)) (by omega) (by rw [show n - (k + 1) + 1 = n - k by omega]; exact this)
theorem kn_loop {P : Nat → Prop} (n : Nat) (h : P n) (hs : ∀ i, i < n → P (i + 1) → P i) : P 0 := by
  have := kn_down h hs n (Nat.le_refl n)
  rwa [Nat.sub_self] at this
/-! reading over a write -/
theorem kv_si_s (u : KMem) (a k : Nat) (x : Int32) : (kv_si u a k x).2.1 a k = x := by simp [kv_si]
theorem kv_si_a {u : KMem} {a k b j : Nat} {x : Int32} (h : b ≠ a) : (kv_si u a k x).2.1 b j = u.2.1 b j := if_neg h
theorem kv_si_k {u : KMem} {a k b j : Nat} {x : Int32} (h : j ≠ k) : (kv_si u a k x).2.1 b j = u.2.1 b j := by simp [kv_si, h]
theorem kv_si_2 (u : KMem) (a k : Nat) (x : Int32) : (kv_si u a k x).2.2 = u.2.2 := rfl
theorem kv_si_1 (u : KMem) (a k : Nat) (x : Int32) : (kv_si u a k x).1 = u.1 := rfl
