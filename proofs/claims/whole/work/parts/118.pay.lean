/-! PAYMENTS: rows of numbers, of which one is left out -/
def kSum : List Int64 → Int64
  | [] => 0
  | x :: t => x + kSum t
theorem kSum_app (A B : List Int64) : kSum (A ++ B) = kSum A + kSum B := by
  induction A with
  | nil => exact (Int64.zero_add _).symm
  | cons x t ih => show x + kSum (t ++ B) = x + kSum t + kSum B; rw [ih, Int64.add_assoc]
def kMx (f : Nat → Nat) : Nat → Nat
  | 0 => 0
  | i + 1 => max (kMx f i) (f i)
theorem kMx_c {f h : Nat → Nat} : ∀ {n : Nat}, (∀ i, i < n → f i = h i) → kMx f n = kMx h n
  | 0, _ => rfl
  | n + 1, q => by
    unfold kMx
    rw [kMx_c (fun i hi => q i (by omega)), q n (by omega)]
def kG : Nat → List Int64 → Nat
  | 0, _ => 0
  | f + 1, L => kMx (fun i => kG f (L.eraseIdx i)) (f + 1) + (if kSum L = 0 then 1 else 0)
def kGL (L : List Int64) : Nat := kG L.length L
theorem kGL_nil : kGL [] = 0 := rfl
theorem kGL_s {L : List Int64} {n : Nat} (h : L.length = n + 1) : kGL L = kMx (fun i => kGL (L.eraseIdx i)) (n + 1) + (if kSum L = 0 then 1 else 0) := by
  unfold kGL
  rw [h]
  show kMx (fun i => kG n (L.eraseIdx i)) (n + 1) + _ = _
  rw [kMx_c (h := fun i => kG (L.eraseIdx i).length (L.eraseIdx i)) (fun i hi => ?_)]
  show kG n (L.eraseIdx i) = kG (L.eraseIdx i).length (L.eraseIdx i)
  rw [List.length_eraseIdx_of_lt (by omega), h]
  rfl
theorem kMx_le {f : Nat → Nat} {b : Nat} : ∀ {n : Nat}, (∀ i, i < n → f i ≤ b) → kMx f n ≤ b
  | 0, _ => Nat.zero_le _
  | n + 1, q => by
    unfold kMx
    exact Nat.max_le.mpr ⟨kMx_le (fun i hi => q i (by omega)), q n (by omega)⟩
theorem kGL_le : ∀ (n : Nat) (L : List Int64), L.length = n → kGL L ≤ n
  | 0, L, h => by
    rw [List.eq_nil_of_length_eq_zero h]
    exact Nat.le_refl _
  | n + 1, L, h => by
    rw [kGL_s h]
    have : kMx (fun i => kGL (L.eraseIdx i)) (n + 1) ≤ n := kMx_le (fun i hi => kGL_le n _ (by rw [List.length_eraseIdx_of_lt (by omega), h]; rfl))
    split <;> omega
/-- those of the first n that are in the set -/
def kLs (p : Nat → Int64) (s : Nat) : Nat → List Int64
  | 0 => []
  | n + 1 => kLs p s n ++ (if s.testBit n then [p n] else [])
theorem kLs_len (p : Nat → Int64) (s : Nat) : ∀ n, (kLs p s n).length = kCt s n
  | 0 => rfl
  | n + 1 => by
    unfold kLs kCt
    rw [List.length_append, kLs_len p s n, kTb]
    cases s.testBit n <;> rfl
theorem kLs_c {p q : Nat → Int64} {s t : Nat} : ∀ {n : Nat}, (∀ i, i < n → s.testBit i = t.testBit i ∧ p i = q i) → kLs p s n = kLs q t n
  | 0, _ => rfl
  | n + 1, h => by
    unfold kLs
    rw [kLs_c (fun i hi => h i (by omega)), (h n (by omega)).1, (h n (by omega)).2]
theorem kXb {s i j : Nat} (h : ¬ i = j) : (s ^^^ 2 ^ i).testBit j = s.testBit j := by
  rw [Nat.testBit_xor, Nat.testBit_two_pow, decide_eq_false h]
  cases s.testBit j <;> rfl
theorem kXs {s i : Nat} (h : s.testBit i = true) : (s ^^^ 2 ^ i).testBit i = false := by
  rw [Nat.testBit_xor, Nat.testBit_two_pow, h, decide_eq_true rfl]
  rfl
theorem kLs_x {p : Nat → Int64} {s i : Nat} (hb : s.testBit i = true) : ∀ n, i < n → kLs p (s ^^^ 2 ^ i) n = (kLs p s n).eraseIdx (kCt s i) ∧ kSum (kLs p s n) = kSum (kLs p (s ^^^ 2 ^ i) n) + p i
  | 0, h => absurd h (Nat.not_lt_zero i)
  | n + 1, h => by
    by_cases q : i = n
    · subst q
      have e : kLs p (s ^^^ 2 ^ i) i = kLs p s i := kLs_c (fun j hj => ⟨kXb (by omega), rfl⟩)
      unfold kLs
      rw [e, hb, kXs hb]
      refine ⟨?_, ?_⟩
      · show kLs p s i ++ [] = (kLs p s i ++ [p i]).eraseIdx (kCt s i)
        rw [List.append_nil, List.eraseIdx_append_of_length_le (by rw [kLs_len]; exact Nat.le_refl _), kLs_len, Nat.sub_self]
        exact (List.append_nil _).symm
      · show kSum (kLs p s i ++ [p i]) = kSum (kLs p s i ++ []) + p i
        rw [List.append_nil, kSum_app]
        show _ + (p i + 0) = _
        rw [Int64.add_zero]
    · obtain ⟨h1, h2⟩ := kLs_x (p := p) hb n (by omega)
      have hlt : kCt s i < (kLs p s n).length := by
        rw [kLs_len]
        have hm : ∀ k, kCt s (i + 1) ≤ kCt s (i + 1 + k) := by
          intro k
          induction k with
          | zero => exact Nat.le_refl _
          | succ k ih => exact Nat.le_trans ih (by show _ ≤ kCt s (i + 1 + k) + (s >>> (i + 1 + k)) % 2; omega)
        have := hm (n - (i + 1))
        rw [show i + 1 + (n - (i + 1)) = n by omega] at this
        have e : kCt s (i + 1) = kCt s i + (s >>> i) % 2 := rfl
        rw [kTb, hb] at e
        have e : kCt s (i + 1) = kCt s i + 1 := e
        omega
      unfold kLs
      rw [kXb q, h1]
      refine ⟨?_, ?_⟩
      · rw [List.eraseIdx_append_of_lt_length hlt]
      · rw [kSum_app, kSum_app, h2, h1, Int64.add_assoc, Int64.add_comm (p i), ← Int64.add_assoc]
theorem kLs_0 (p : Nat → Int64) : ∀ n, kLs p 0 n = []
  | 0 => rfl
  | n + 1 => by
    unfold kLs
    rw [kLs_0 p n, Nat.zero_testBit]
    rfl
/-- the ones that are not 0, in their order: the class's row, the model's set -/
def kNz (p : Nat → Int64) : Nat → List Int64
  | 0 => []
  | n + 1 => kNz p n ++ (if p n = 0 then [] else [p n])
def kSm (p : Nat → Int64) : Nat → Nat
  | 0 => 0
  | n + 1 => kSm p n ||| (if p n = 0 then 0 else 2 ^ n)
theorem kSm_tb (p : Nat → Int64) : ∀ n i, (kSm p n).testBit i = (decide (i < n) && decide (¬ p i = 0))
  | 0, i => by
    show (0 : Nat).testBit i = _
    rw [Nat.zero_testBit, decide_eq_false (Nat.not_lt_zero i), Bool.false_and]
  | n + 1, i => by
    unfold kSm
    rw [Nat.testBit_or, kSm_tb p n i]
    by_cases q : i = n
    · subst q
      by_cases z : p i = 0
      · rw [if_pos z]; simp [z]
      · rw [if_neg z]; simp [z, Nat.testBit_two_pow]
    · have hd : decide (i < n + 1) = decide (i < n) := by
        by_cases z : i < n
        · rw [decide_eq_true z, decide_eq_true (by omega)]
        · rw [decide_eq_false z, decide_eq_false (by omega)]
      rw [hd]
      split
      · simp
      · have hz : (2 ^ n).testBit i = false := by rw [Nat.testBit_two_pow]; exact decide_eq_false (fun z => q z.symm)
        simp [hz]
theorem kSm_ls (p : Nat → Int64) (N : Nat) : ∀ n, n ≤ N → kLs p (kSm p N) n = kNz p n
  | 0, _ => rfl
  | n + 1, h => by
    unfold kLs kNz
    rw [kSm_ls p N n (by omega), kSm_tb, decide_eq_true (show n < N by omega), Bool.true_and]
    by_cases z : p n = 0
    · rw [if_pos z, decide_eq_false (fun q => q z)]; rfl
    · rw [if_neg z, decide_eq_true z]; rfl
theorem kFull_ls (q : Nat → Int64) (m : Nat) : ∀ n, n ≤ m → kLs q (2 ^ m - 1) n = (List.range n).map q
  | 0, _ => rfl
  | n + 1, h => by
    unfold kLs
    rw [kFull_ls q m n (by omega), Nat.testBit_two_pow_sub_one, decide_eq_true (show n < m by omega), List.range_succ, List.map_append]
    rfl
theorem kNz_len (p : Nat → Int64) : ∀ n, (kNz p n).length ≤ n
  | 0 => Nat.le_refl _
  | n + 1 => by
    have := kNz_len p n
    unfold kNz
    rw [List.length_append]
    split
    · show (kNz p n).length + 0 ≤ n + 1; omega
    · show (kNz p n).length + 1 ≤ n + 1; omega
theorem kNz_y {p : Nat → Int64} {n : Nat} (h : p n = 0) : kNz p (n + 1) = kNz p n := by
  show kNz p n ++ (if p n = 0 then [] else [p n]) = _
  rw [if_pos h, List.append_nil]
theorem kNz_n {p : Nat → Int64} {n : Nat} (h : ¬ p n = 0) : kNz p (n + 1) = kNz p n ++ [p n] := by
  show kNz p n ++ (if p n = 0 then [] else [p n]) = _
  rw [if_neg h]
theorem kSm_lt (p : Nat → Int64) (n : Nat) : kSm p n < 2 ^ n := by
  refine Nat.lt_pow_two_of_testBit _ fun i hi => ?_
  rw [kSm_tb, decide_eq_false (by omega), Bool.false_and]
theorem kNz_map {L : List Int64} {q : Nat → Int64} (h : ∀ j, j < L.length → L[j]? = some (q j)) : (List.range L.length).map q = L := by
  refine List.ext_getElem? fun i => ?_
  by_cases hi : i < L.length
  · rw [h i hi, List.getElem?_map, List.getElem?_range hi]; rfl
  · rw [List.getElem?_eq_none (by rw [List.length_map, List.length_range]; omega), List.getElem?_eq_none (by omega)]
/-- the greatest of those sets that lack one more, so far -/
theorem kGs_y {p : Nat → Int64} {s n i : Nat} (hb : s.testBit i = true) (hi : i < n) : kMx (fun r => kGL ((kLs p s n).eraseIdx r)) (kCt s (i + 1)) = max (kMx (fun r => kGL ((kLs p s n).eraseIdx r)) (kCt s i)) (kGL (kLs p (s ^^^ 2 ^ i) n)) := by
  have e : kCt s (i + 1) = kCt s i + (s >>> i) % 2 := rfl
  rw [kTb, hb] at e
  have e : kCt s (i + 1) = kCt s i + 1 := e
  rw [e, (kLs_x hb n hi).1]
  rfl
theorem kGs_n {s i : Nat} (hb : s.testBit i = false) : kCt s (i + 1) = kCt s i := by
  have e : kCt s (i + 1) = kCt s i + (s >>> i) % 2 := rfl
  rw [kTb, hb] at e
  exact e
theorem kGs_end {p : Nat → Int64} {s n : Nat} (h : 0 < kCt s n) : kGL (kLs p s n) = kMx (fun r => kGL ((kLs p s n).eraseIdx r)) (kCt s n) + (if kSum (kLs p s n) = 0 then 1 else 0) := by
  obtain ⟨m, hm⟩ : ∃ m, kCt s n = m + 1 := ⟨kCt s n - 1, by omega⟩
  rw [hm]
  exact kGL_s (by rw [kLs_len, hm])
theorem kCt_pos {s n i : Nat} (hb : s.testBit i = true) (hi : i < n) : 0 < kCt s n := by
  have h1 := kCt_m s (i + 1) (n - (i + 1))
  rw [show i + 1 + (n - (i + 1)) = n by omega] at h1
  have e : kCt s (i + 1) = kCt s i + (s >>> i) % 2 := rfl
  rw [kTb, hb] at e
  have e : kCt s (i + 1) = kCt s i + 1 := e
  omega
def kXlB : Nat → Bool
  | 0 => true
  | s + 1 => ((List.range 11).all fun i => !s.testBit i || (Nat.blt (s ^^^ 2 ^ i) s && Nat.beq (s ^^^ (s &&& 2 ^ i)) (s ^^^ 2 ^ i))) && kXlB s
theorem kXlB_t : kXlB 2048 = true := by decide +kernel
theorem kXlB_m : ∀ {n : Nat}, kXlB n = true → ∀ s, s < n → ∀ i, i < 11 → s.testBit i = true → s ^^^ 2 ^ i < s ∧ s ^^^ (s &&& 2 ^ i) = s ^^^ 2 ^ i
  | 0, _, m, hm, _, _, _ => absurd hm (Nat.not_lt_zero m)
  | n + 1, h, s, hm, i, hi, hb => by
    unfold kXlB at h
    rw [Bool.and_eq_true] at h
    by_cases q : s = n
    · subst q
      have h0 := List.all_eq_true.mp h.1 i (List.mem_range.mpr hi)
      rw [hb] at h0
      simp only [Bool.not_true, Bool.false_or, Bool.and_eq_true] at h0
      exact ⟨Nat.le_of_ble_eq_true h0.1, Nat.eq_of_beq_eq_true h0.2⟩
    · exact kXlB_m h.2 s (by omega) i hi hb
theorem kXlt {s i : Nat} (h : s < 2048) (hi : i < 11) (hb : s.testBit i = true) : s ^^^ 2 ^ i < s ∧ s ^^^ (s &&& 2 ^ i) = s ^^^ 2 ^ i := kXlB_m kXlB_t s h i hi hb
theorem kn_max {a b : Nat} (ha : a < 2147483648) (hb : b < 2147483648) : (if nI a < nI b then nI b else nI a) = nI (max a b) := by
  by_cases h : a < b
  · rw [if_pos (nI_lt h hb), Nat.max_eq_right (by omega)]
  · rw [if_neg (fun q => h ((nI_ltI ha hb).mp q)), Nat.max_eq_left (by omega)]
theorem kBit_l {s n l : Nat} (h : s < 2 ^ n) (hb : s.testBit l = true) : l < n := by
  refine Nat.lt_of_not_le fun q => ?_
  have : s.testBit l = false := Nat.testBit_lt_two_pow (Nat.lt_of_lt_of_le h (Nat.pow_le_pow_right (by decide) q))
  rw [this] at hb
  exact absurd hb (by decide)
theorem kSb_x {s i m : Nat} (hb : s.testBit i = true) (h : kSb s m) : kSb (s ^^^ 2 ^ i) m := fun j q => by
  by_cases z : i = j
  · rw [← z, kXs hb] at q; exact absurd q (by decide)
  · rw [kXb z] at q; exact h j q
theorem kSb_and {s m : Nat} : (s ^^^ (s &&& m) = 0) ↔ kSb s m := by
  constructor
  · intro h i hi
    have := congrArg (fun x => x.testBit i) h
    simp only [Nat.testBit_xor, Nat.testBit_and, Nat.zero_testBit, hi] at this
    cases z : m.testBit i
    · rw [z] at this; exact absurd this (by decide)
    · rfl
  · intro h
    refine Nat.eq_of_testBit_eq fun i => ?_
    rw [Nat.testBit_xor, Nat.testBit_and, Nat.zero_testBit]
    cases z : s.testBit i
    · rfl
    · rw [h i z]; rfl
def kNtB : Nat → Bool
  | 0 => true
  | s + 1 => (Nat.beq s 0 || ((List.range 11).any fun l => ((nI s ^^^ (-1)) &&& (nI s - 1) == nI (2 ^ l - 1)) && s.testBit l && (nI s &&& (nI s - 1) == nI (s ^^^ 2 ^ l)))) && kNtB s
theorem kNtB_t : kNtB 2048 = true := by decide +kernel
theorem kNtB_m : ∀ {n : Nat}, kNtB n = true → ∀ s, s < n → 1 ≤ s → ∃ l, l < 11 ∧ (nI s ^^^ (-1)) &&& (nI s - 1) = nI (2 ^ l - 1) ∧ s.testBit l = true ∧ nI s &&& (nI s - 1) = nI (s ^^^ 2 ^ l)
  | 0, _, m, hm, _ => absurd hm (Nat.not_lt_zero m)
  | n + 1, h, s, hm, h1 => by
    unfold kNtB at h
    rw [Bool.and_eq_true] at h
    by_cases q : s = n
    · subst q
      have h0 := h.1
      rw [Bool.or_eq_true] at h0
      rcases h0 with h0 | h0
      · exact absurd (Nat.eq_of_beq_eq_true h0) (by omega)
      · obtain ⟨l, hl, e⟩ := List.any_eq_true.mp h0
        simp only [Bool.and_eq_true, beq_iff_eq] at e
        exact ⟨l, List.mem_range.mp hl, e.1.1, e.1.2, e.2⟩
    · exact kNtB_m h.2 s (by omega) h1
theorem kNt {s : Nat} (h1 : 1 ≤ s) (h : s < 2048) : ∃ l, l < 11 ∧ (nI s ^^^ (-1)) &&& (nI s - 1) = nI (2 ^ l - 1) ∧ s.testBit l = true ∧ nI s &&& (nI s - 1) = nI (s ^^^ 2 ^ l) := kNtB_m kNtB_t s h h1
