theorem ksN {r : List (Option Value)} : kv_sub [] r := trivial
theorem ksS {x : Option Value} {v : Value} {a r : List (Option Value)} (h : x = some v) (t : kv_sub a r) : kv_sub (some v :: a) (x :: r) := ⟨h, t⟩
theorem ks0 {x : Option Value} {a r : List (Option Value)} (t : kv_sub a r) : kv_sub (none :: a) (x :: r) := t
theorem kn_ge {i n : Nat} (h : i < n) (hn : n < 2147483648) : ¬ nI n ≤ nI i := nI_ge h hn
theorem kn_nge {n : Nat} (h : ¬ nI n ≤ nI n) : False := h (Int32.le_refl _)
