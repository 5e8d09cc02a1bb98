/-! sets of numbers below n: a is inside b -/
def kSb (a b : Nat) : Prop := ∀ i, a.testBit i = true → b.testBit i = true
theorem kSb.rf (a : Nat) : kSb a a := fun _ h => h
theorem kSb.tr {a b c : Nat} (h : kSb a b) (h2 : kSb b c) : kSb a c := fun i q => h2 i (h i q)
theorem kSb.as {a b : Nat} (h : kSb a b) (h2 : kSb b a) : a = b := Nat.eq_of_testBit_eq fun i => by
  cases p : a.testBit i <;> cases q : b.testBit i
  · rfl
  · exact absurd (h2 i q) (by rw [p]; decide)
  · exact absurd (h i p) (by rw [q]; decide)
  · rfl
theorem kSb.orl (a b : Nat) : kSb a (a ||| b) := fun i h => by rw [Nat.testBit_or, h]; rfl
theorem kSb.orr (a b : Nat) : kSb b (a ||| b) := fun i h => by rw [Nat.testBit_or, h, Bool.or_true]
theorem kSb.or {a b c : Nat} (h : kSb a c) (h2 : kSb b c) : kSb (a ||| b) c := fun i q => by
  rw [Nat.testBit_or, Bool.or_eq_true] at q
  exact q.elim (h i) (h2 i)
theorem kSb.zero (a : Nat) : kSb 0 a := fun i h => by rw [Nat.zero_testBit] at h; exact absurd h (by decide)
theorem kCt_in {a b : Nat} (h : kSb a b) : ∀ n, kCt a n ≤ kCt b n ∧ (kCt a n = kCt b n → ∀ i, i < n → a.testBit i = b.testBit i)
  | 0 => ⟨Nat.le_refl _, fun _ i hi => absurd hi (Nat.not_lt_zero i)⟩
  | n + 1 => by
    obtain ⟨h1, h2⟩ := kCt_in h n
    have hb : a.testBit n = true → b.testBit n = true := h n
    unfold kCt
    rw [kTb, kTb]
    cases p : a.testBit n <;> cases q : b.testBit n
    · refine ⟨by simpa using h1, fun e i hi => ?_⟩
      by_cases z : i = n
      · rw [z, p, q]
      · exact h2 (by simpa using e) i (by omega)
    · refine ⟨by simp; omega, fun e => ?_⟩
      simp at e
      omega
    · rw [p] at hb; rw [hb rfl] at q; exact absurd q (by decide)
    · refine ⟨by simpa using h1, fun e i hi => ?_⟩
      by_cases z : i = n
      · rw [z, p, q]
      · exact h2 (by simpa using e) i (by omega)
theorem kCt_st {a b n : Nat} (h : kSb a b) (hb : b < 2 ^ n) (hne : ¬ a = b) : kCt a n < kCt b n := by
  have h1 := kCt_in h n
  refine Nat.lt_of_le_of_ne h1.1 fun e => hne ?_
  refine Nat.eq_of_testBit_eq fun i => ?_
  by_cases q : i < n
  · exact h1.2 e i q
  · have hq : b.testBit i = false := Nat.testBit_lt_two_pow (Nat.lt_of_lt_of_le hb (Nat.pow_le_pow_right (by decide) (by omega)))
    cases p : a.testBit i
    · rw [hq]
    · rw [h i p] at hq; exact absurd hq (by decide)
/-- one pass: those tied to one that is in come in -/
def kPsA (T : Nat → Nat) (r : Nat) : Nat → Nat
  | 0 => r
  | i + 1 => kPsA T r i ||| (if (kPsA T r i >>> i) % 2 = 1 then T i else 0)
theorem kPsA_up (T : Nat → Nat) (r : Nat) : ∀ i k, kSb (kPsA T r i) (kPsA T r (i + k))
  | i, 0 => kSb.rf _
  | i, k + 1 => (kPsA_up T r i k).tr (kSb.orl _ _)
theorem kPsA_b {T : Nat → Nat} {r n : Nat} (hr : r < 2 ^ 20) (hT : ∀ i, i < n → T i < 2 ^ 20) : ∀ i, i ≤ n → kPsA T r i < 2 ^ 20
  | 0, _ => hr
  | i + 1, hi => by
    unfold kPsA
    refine Nat.or_lt_two_pow (kPsA_b hr hT i (by omega)) ?_
    split
    · exact hT i (by omega)
    · decide
def kRgA (T : Nat → Nat) (n r : Nat) : Nat → Nat
  | 0 => r
  | k + 1 => kPsA T (kRgA T n r k) n
theorem kRgA_b {T : Nat → Nat} {r n : Nat} (hr : r < 2 ^ 20) (hT : ∀ i, i < n → T i < 2 ^ 20) : ∀ k, kRgA T n r k < 2 ^ 20
  | 0 => hr
  | k + 1 => kPsA_b (kRgA_b hr hT k) hT n (Nat.le_refl _)
theorem kRgA_fix {T : Nat → Nat} {n r k : Nat} (h : kRgA T n r (k + 1) = kRgA T n r k) : ∀ j, kRgA T n r (k + j) = kRgA T n r k
  | 0 => rfl
  | j + 1 => by
    show kPsA T (kRgA T n r (k + j)) n = _
    rw [kRgA_fix h j]
    exact h
theorem kRgA_in (T : Nat → Nat) (n r : Nat) (k : Nat) : kSb (kRgA T n r k) (kRgA T n r (k + 1)) := by
  have := kPsA_up T (kRgA T n r k) 0 n
  rw [Nat.zero_add] at this
  exact this
theorem kRgA_ct {T : Nat → Nat} {r n : Nat} (hr : r < 2 ^ 20) (hT : ∀ i, i < n → T i < 2 ^ 20) (h0 : 1 ≤ kCt r 20) : ∀ k, (∀ j, j < k → ¬ kRgA T n r (j + 1) = kRgA T n r j) → k + 1 ≤ kCt (kRgA T n r k) 20
  | 0, _ => h0
  | k + 1, h => by
    have h1 := kRgA_ct hr hT h0 k (fun j hj => h j (by omega))
    have h2 := kCt_st (kRgA_in T n r k) (kRgA_b hr hT (k + 1)) (fun q => h k (by omega) q.symm)
    omega
/-- twenty passes are enough -/
theorem kRgA_20 {T : Nat → Nat} {r n : Nat} (hr : r < 2 ^ 20) (hT : ∀ i, i < n → T i < 2 ^ 20) (h0 : 1 ≤ kCt r 20) : kRgA T n r 20 = kRgA T n r 19 := by
  by_cases q : ∃ j, j < 20 ∧ kRgA T n r (j + 1) = kRgA T n r j
  · obtain ⟨j, hj, e⟩ := q
    have e1 := kRgA_fix e (20 - j)
    have e2 := kRgA_fix e (19 - j)
    rw [show j + (20 - j) = 20 by omega] at e1
    rw [show j + (19 - j) = 19 by omega] at e2
    rw [e1, e2]
  · have h1 := kRgA_ct hr hT h0 20 (fun j hj z => q ⟨j, hj, z⟩)
    have := kCt_b (kRgA T n r 20) 20
    omega
theorem kPsA_cl {T : Nat → Nat} {C : Nat} {n : Nat} (h : kPsA T C n = C) : ∀ i, i < n → C.testBit i = true → kSb (T i) C := by
  intro i hi hb
  have h1 : kPsA T C i = C := by
    refine kSb.as ?_ ?_
    · have := kPsA_up T C i (n - i)
      rw [show i + (n - i) = n by omega, h] at this
      exact this
    · have := kPsA_up T C 0 i
      rw [Nat.zero_add] at this
      exact this
  have h2 : kSb (kPsA T C (i + 1)) C := by
    have := kPsA_up T C (i + 1) (n - (i + 1))
    rw [show i + 1 + (n - (i + 1)) = n by omega, h] at this
    exact this
  refine kSb.tr ?_ h2
  show kSb (T i) (kPsA T C i ||| (if (kPsA T C i >>> i) % 2 = 1 then T i else 0))
  rw [h1, if_pos (by rw [kTb, hb]; rfl)]
  exact kSb.orr _ _
theorem kPsA_sub {T : Nat → Nat} {C r n : Nat} (hC : ∀ i, i < n → C.testBit i = true → kSb (T i) C) (hr : kSb r C) : ∀ i, i ≤ n → kSb (kPsA T r i) C
  | 0, _ => hr
  | i + 1, hi => by
    have h := kPsA_sub hC hr i (by omega)
    unfold kPsA
    refine kSb.or h ?_
    split
    · rename_i q
      rw [kTb] at q
      exact hC i (by omega) (h i (by cases z : (kPsA T r i).testBit i; rw [z] at q; exact absurd q (by decide); rfl))
    · exact kSb.zero _
theorem kRgA_sub {T : Nat → Nat} {C r n : Nat} (hC : ∀ i, i < n → C.testBit i = true → kSb (T i) C) (hr : kSb r C) : ∀ k, kSb (kRgA T n r k) C
  | 0 => hr
  | k + 1 => kPsA_sub hC (kRgA_sub hC hr k) n (Nat.le_refl _)
theorem kPow_in {i C : Nat} (h : C.testBit i = true) : kSb (2 ^ i) C := fun j q => by
  rw [Nat.testBit_two_pow, decide_eq_true_iff] at q
  rw [← q]; exact h
theorem kCt_pow : ∀ c, c < 20 → 1 ≤ kCt (2 ^ c) 20 ∧ 2 ^ c < 2 ^ 20 := by decide
def kRg (T : Nat → Nat) (n c : Nat) : Nat := kRgA T n (2 ^ c) 20
theorem kRg_cl {T : Nat → Nat} {n c : Nat} (hc : c < 20) (hT : ∀ i, i < n → T i < 2 ^ 20) : kPsA T (kRg T n c) n = kRg T n c := by
  have h := kRgA_20 (kCt_pow c hc).2 hT (kCt_pow c hc).1
  have h2 := kRgA_fix (k := 19) h 2
  show kRgA T n (2 ^ c) 21 = kRgA T n (2 ^ c) 20
  rw [h]; exact h2
/-- the rings that were seen hold the ring of each of theirs -/
def kSnA (T : Nat → Nat) (n : Nat) : Nat → Nat
  | 0 => 0
  | a + 1 => kSnA T n a ||| kRg T n a
theorem kSnA_in {T : Nat → Nat} {n : Nat} (hn : n ≤ 20) (hT : ∀ i, i < n → T i < 2 ^ 20) : ∀ a, a ≤ n → ∀ c, c < n → (kSnA T n a).testBit c = true → kSb (kRg T n c) (kSnA T n a)
  | 0, _, c, hc, h => by
    have h : (0 : Nat).testBit c = true := h
    rw [Nat.zero_testBit] at h; exact absurd h (by decide)
  | a + 1, ha, c, hc, h => by
    have h : (kSnA T n a ||| kRg T n a).testBit c = true := h
    show kSb (kRg T n c) (kSnA T n a ||| kRg T n a)
    rw [Nat.testBit_or, Bool.or_eq_true] at h
    rcases h with h | h
    · exact (kSnA_in hn hT a (by omega) c hc h).tr (kSb.orl _ _)
    · exact (kRgA_sub (kPsA_cl (kRg_cl (by omega) hT)) (kPow_in h) 20).tr (kSb.orr _ _)
theorem kSb.or_eq {a b : Nat} (h : kSb b a) : a ||| b = a := kSb.as (kSb.or (kSb.rf a) h) (kSb.orl _ _)
/-! WHICH CRASHES ARE TIED -/
def kAlA (g : Nat → Int32) (c d : Nat) : Nat → Nat
  | 0 => 0
  | m + 1 => kAlA g c d m + (if ¬ g (40 + 8 * c + (5 + m)) < 0 ∧ g (40 + 8 * c + (5 + m)) = g (40 + 8 * d + (5 + m)) then 1 else 0)
theorem kAlA_sym (g : Nat → Int32) (c d : Nat) : ∀ m, kAlA g c d m = kAlA g d c m
  | 0 => rfl
  | m + 1 => by
    unfold kAlA
    rw [kAlA_sym g c d m]
    by_cases h : ¬ g (40 + 8 * c + (5 + m)) < 0 ∧ g (40 + 8 * c + (5 + m)) = g (40 + 8 * d + (5 + m))
    · rw [if_pos h, if_pos ⟨by rw [← h.2]; exact h.1, h.2.symm⟩]
    · rw [if_neg h, if_neg (fun q => h ⟨by rw [← q.2]; exact q.1, q.2.symm⟩)]
theorem kAlA_le (g : Nat → Int32) (c d : Nat) : ∀ m, kAlA g c d m ≤ m
  | 0 => Nat.le_refl _
  | m + 1 => by
    have := kAlA_le g c d m
    unfold kAlA
    split <;> omega
abbrev kTi (g : Nat → Int32) (a b i j : Nat) : Prop := kCarOf g a i = kCarOf g b j ∨ 2 ≤ kAlA g (kCarOf g a i) (kCarOf g b j) 3
abbrev kTie (g : Nat → Int32) (a b : Nat) : Prop := kTi g a b 0 0 ∨ kTi g a b 0 1 ∨ kTi g a b 1 0 ∨ kTi g a b 1 1
theorem kTi_sym {g : Nat → Int32} {a b i j : Nat} (h : kTi g a b i j) : kTi g b a j i := h.elim (fun q => Or.inl q.symm) (fun q => Or.inr (by rw [kAlA_sym]; exact q))
theorem kTie_sym {g : Nat → Int32} {a b : Nat} (h : kTie g a b) : kTie g b a := by
  rcases h with h | h | h | h
  · exact Or.inl (kTi_sym h)
  · exact Or.inr (Or.inr (Or.inl (kTi_sym h)))
  · exact Or.inr (Or.inl (kTi_sym h))
  · exact Or.inr (Or.inr (Or.inr (kTi_sym h)))
/-- the set of those below n for which p says true -/
def kSt (p : Nat → Bool) : Nat → Nat
  | 0 => 0
  | d + 1 => kSt p d ||| (if p d then 2 ^ d else 0)
theorem kSt_tb (p : Nat → Bool) : ∀ n i, (kSt p n).testBit i = (decide (i < n) && p i)
  | 0, i => by
    show (0 : Nat).testBit i = _
    rw [Nat.zero_testBit, decide_eq_false (Nat.not_lt_zero i), Bool.false_and]
  | n + 1, i => by
    unfold kSt
    rw [Nat.testBit_or, kSt_tb p n i]
    by_cases q : i = n
    · subst q
      cases h : p i
      · simp
      · simp [Nat.testBit_two_pow]
    · have hd : decide (i < n + 1) = decide (i < n) := by
        by_cases z : i < n
        · rw [decide_eq_true z, decide_eq_true (by omega)]
        · rw [decide_eq_false z, decide_eq_false (by omega)]
      rw [hd]
      cases h : p n
      · simp
      · have hz : (2 ^ n).testBit i = false := by rw [Nat.testBit_two_pow]; exact decide_eq_false (fun z => q z.symm)
        simp [hz]
theorem kSt_lt (p : Nat → Bool) (n : Nat) : kSt p n < 2 ^ n := by
  refine Nat.lt_pow_two_of_testBit _ fun i hi => ?_
  rw [kSt_tb, decide_eq_false (by omega), Bool.false_and]
theorem kSt_ext {p : Nat → Bool} {n m : Nat} (h : ∀ i, m.testBit i = (decide (i < n) && p i)) : m = kSt p n := Nat.eq_of_testBit_eq fun i => by rw [h i, kSt_tb]
/-- those tied to a, of all n -/
def kTt (g : Nat → Int32) (n a : Nat) : Nat := kSt (fun d => decide (¬ a = d ∧ kTie g a d)) n
/-- of pairs c, d: those that the class has looked at when it stands at a, b -/
def kTp (g : Nat → Int32) (a b c : Nat) : Nat := kSt (fun d => decide (¬ c = d ∧ kTie g c d ∧ ((c < a ∧ d < a) ∨ (c = a ∧ d < b) ∨ (d = a ∧ c < b)))) 20
theorem kTp_0 (g : Nat → Int32) (c : Nat) : kTp g 0 0 c = 0 := by
  refine (kSt_ext fun i => ?_).symm
  rw [Nat.zero_testBit, decide_eq_false (p := _ ∧ _ ∧ _) (fun q => by omega), Bool.and_false]
theorem kTp_up (g : Nat → Int32) {a c : Nat} : kTp g a a c = kTp g (a + 1) 0 c := by
  refine kSt_ext fun i => ?_
  unfold kTp
  rw [kSt_tb]
  congr 1
  refine decide_eq_decide.mpr ⟨fun q => ⟨q.1, q.2.1, by omega⟩, fun q => ⟨q.1, q.2.1, by omega⟩⟩
theorem kTp_n {g : Nat → Int32} {a b c : Nat} (h : ¬ kTie g a b) : kTp g a (b + 1) c = kTp g a b c := by
  refine (kSt_ext fun i => ?_).symm
  unfold kTp
  rw [kSt_tb]
  congr 1
  refine decide_eq_decide.mpr ⟨fun q => ⟨q.1, q.2.1, by omega⟩, fun q => ⟨q.1, q.2.1, ?_⟩⟩
  by_cases z1 : c = a ∧ i = b
  · rw [z1.1, z1.2] at q; exact absurd q.2.1 h
  · by_cases z2 : i = a ∧ c = b
    · rw [z2.1, z2.2] at q; exact absurd (kTie_sym q.2.1) h
    · omega
theorem kTp_o {g : Nat → Int32} {a b c : Nat} (hc1 : ¬ c = a) (hc2 : ¬ c = b) : kTp g a (b + 1) c = kTp g a b c := by
  refine (kSt_ext fun i => ?_).symm
  unfold kTp
  rw [kSt_tb]
  congr 1
  refine decide_eq_decide.mpr ⟨fun q => ⟨q.1, q.2.1, by omega⟩, fun q => ⟨q.1, q.2.1, by omega⟩⟩
theorem kTp_a {g : Nat → Int32} {a b : Nat} (hb : b < a) (ha : a < 20) (h : kTie g a b) : kTp g a b a ||| 2 ^ b = kTp g a (b + 1) a := by
  refine kSt_ext fun i => ?_
  unfold kTp
  rw [Nat.testBit_or, kSt_tb, Nat.testBit_two_pow]
  by_cases q : b = i
  · subst q
    rw [decide_eq_true (rfl : b = b), Bool.or_true, decide_eq_true (show b < 20 by omega), Bool.true_and]
    exact (decide_eq_true (by exact ⟨by omega, h, by omega⟩)).symm
  · rw [decide_eq_false q, Bool.or_false]
    congr 1
    refine decide_eq_decide.mpr ⟨fun q => ⟨q.1, q.2.1, by omega⟩, fun q => ⟨q.1, q.2.1, by omega⟩⟩
theorem kTp_b {g : Nat → Int32} {a b : Nat} (hb : b < a) (ha : a < 20) (h : kTie g a b) : kTp g a b b ||| 2 ^ a = kTp g a (b + 1) b := by
  refine kSt_ext fun i => ?_
  unfold kTp
  rw [Nat.testBit_or, kSt_tb, Nat.testBit_two_pow]
  by_cases q : a = i
  · subst q
    rw [decide_eq_true (rfl : a = a), Bool.or_true, decide_eq_true ha, Bool.true_and]
    exact (decide_eq_true (by exact ⟨by omega, kTie_sym h, by omega⟩)).symm
  · rw [decide_eq_false q, Bool.or_false]
    congr 1
    refine decide_eq_decide.mpr ⟨fun q => ⟨q.1, q.2.1, by omega⟩, fun q => ⟨q.1, q.2.1, by omega⟩⟩
theorem kTp_end {g : Nat → Int32} {n c : Nat} (hn : n ≤ 20) (hc : c < n) : kTp g n 0 c = kTt g n c := by
  refine kSt_ext fun i => ?_
  unfold kTp
  rw [kSt_tb]
  by_cases q : i < n
  · rw [decide_eq_true q, decide_eq_true (show i < 20 by omega), Bool.true_and, Bool.true_and]
    refine decide_eq_decide.mpr ⟨fun q => ⟨q.1, q.2.1⟩, fun q => ⟨q.1, q.2, by omega⟩⟩
  · rw [decide_eq_false q, Bool.false_and, decide_eq_false (p := _ ∧ _ ∧ _) (fun q => by omega), Bool.and_false]
theorem kTt_lt {g : Nat → Int32} {n : Nat} (hn : n ≤ 20) (a : Nat) : kTt g n a < 2 ^ 20 := Nat.lt_of_lt_of_le (kSt_lt _ n) (Nat.pow_le_pow_right (by decide) hn)
