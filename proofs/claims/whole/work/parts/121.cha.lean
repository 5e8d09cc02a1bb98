/-! A CHAIN: in how many orders, and the first of them -/
def kSgm (f : Nat → Nat) : Nat → Nat
  | 0 => 0
  | c + 1 => kSgm f c + f c
theorem kSgm_c {f h : Nat → Nat} : ∀ {n : Nat}, (∀ i, i < n → f i = h i) → kSgm f n = kSgm h n
  | 0, _ => rfl
  | n + 1, q => by
    unfold kSgm
    rw [kSgm_c (fun i hi => q i (by omega)), q n (by omega)]
theorem kSgm_b {f : Nat → Nat} {b : Nat} : ∀ {n : Nat}, (∀ i, i < n → f i ≤ b) → kSgm f n ≤ n * b
  | 0, _ => Nat.zero_le _
  | n + 1, q => by
    have h1 := kSgm_b (n := n) (fun i hi => q i (by omega))
    have h2 := q n (by omega)
    unfold kSgm
    rw [Nat.succ_mul]
    omega
def kFiA (f : Nat → Nat) : Nat → Nat → Nat
  | 0, _ => 0
  | n + 1, i => if 0 < f i then i else kFiA f n (i + 1)
def kFi (f : Nat → Nat) (m : Nat) : Nat := kFiA f m 0
theorem kFiA_is {f : Nat → Nat} {m c : Nat} (hc : c < m) (h : 0 < f c) : ∀ n i, i + n = m → i ≤ c → (∀ j, i ≤ j → j < c → f j = 0) → kFiA f n i = c
  | 0, i, h1, h2, _ => absurd hc (by omega)
  | n + 1, i, h1, h2, h3 => by
    unfold kFiA
    by_cases q : i = c
    · rw [q, if_pos h]
    · rw [if_neg (by rw [h3 i (Nat.le_refl _) (by omega)]; exact Nat.lt_irrefl 0)]
      exact kFiA_is hc h n (i + 1) (by omega) (by omega) (fun j h4 h5 => h3 j (by omega) h5)
theorem kSgm_0 {f : Nat → Nat} : ∀ {c : Nat}, kSgm f c = 0 → ∀ j, j < c → f j = 0
  | 0, _, j, hj => absurd hj (Nat.not_lt_zero j)
  | c + 1, h, j, hj => by
    unfold kSgm at h
    by_cases q : j = c
    · rw [q]; omega
    · exact kSgm_0 (c := c) (by omega) j (by omega)
theorem kFi_is {f : Nat → Nat} {m c : Nat} (hc : c < m) (h : 0 < f c) (h0 : kSgm f c = 0) : kFi f m = c := kFiA_is hc h m 0 (by omega) (Nat.zero_le _) (fun j _ hj => kSgm_0 h0 j hj)
theorem kFiA_lt {f : Nat → Nat} {m : Nat} (h0 : 0 < m) : ∀ n i, i + n = m → kFiA f n i < m
  | 0, _, _ => h0
  | n + 1, i, h => by
    unfold kFiA
    split
    · omega
    · exact kFiA_lt h0 n (i + 1) (by omega)
/-- how many orders there are of k more, when `used` are used and Dl says who may come next -/
def kTn (D : Nat → Nat → Bool) (m : Nat) : Nat → Nat → (Nat → Bool) → Nat
  | 0, _, _ => 1
  | k + 1, used, Dl => kSgm (fun c => if (!used.testBit c && Dl c) = true then kTn D m k (used ||| 2 ^ c) (D c) else 0) m
/-- the one term of it -/
def kT1 (D : Nat → Nat → Bool) (m k used : Nat) (Dl : Nat → Bool) (c : Nat) : Nat := if (!used.testBit c && Dl c) = true then kTn D m k (used ||| 2 ^ c) (D c) else 0
theorem kTn_s (D : Nat → Nat → Bool) (m k used : Nat) (Dl : Nat → Bool) : kTn D m (k + 1) used Dl = kSgm (kT1 D m k used Dl) m := rfl
theorem kTn_b {D : Nat → Nat → Bool} {m : Nat} (hm : m ≤ 6) : ∀ k used Dl, kTn D m k used Dl ≤ 6 ^ k
  | 0, _, _ => Nat.le_refl _
  | k + 1, used, Dl => by
    have h : kSgm (kT1 D m k used Dl) m ≤ m * 6 ^ k := kSgm_b (fun c hc => by
      unfold kT1
      split
      · exact kTn_b hm k _ _
      · exact Nat.zero_le _)
    rw [kTn_s, Nat.pow_succ, Nat.mul_comm]
    exact Nat.le_trans h (Nat.mul_le_mul_right _ hm)
def kFp (D : Nat → Nat → Bool) (m : Nat) : Nat → Nat → (Nat → Bool) → List Nat
  | 0, _, _ => []
  | k + 1, used, Dl => kFi (kT1 D m k used Dl) m :: kFp D m k (used ||| 2 ^ kFi (kT1 D m k used Dl) m) (D (kFi (kT1 D m k used Dl) m))
theorem kFp_s (D : Nat → Nat → Bool) (m k used : Nat) (Dl : Nat → Bool) {c : Nat} (h : kFi (kT1 D m k used Dl) m = c) : kFp D m (k + 1) used Dl = c :: kFp D m k (used ||| 2 ^ c) (D c) := by
  show kFi (kT1 D m k used Dl) m :: kFp D m k (used ||| 2 ^ kFi (kT1 D m k used Dl) m) (D (kFi (kT1 D m k used Dl) m)) = _
  rw [h]
theorem kCt_or {s c : Nat} (hb : s.testBit c = false) : ∀ m, c < m → kCt (s ||| 2 ^ c) m = kCt s m + 1
  | 0, h => absurd h (Nat.not_lt_zero c)
  | m + 1, h => by
    unfold kCt
    rw [kTb, kTb, Nat.testBit_or, Nat.testBit_two_pow]
    by_cases q : c = m
    · subst q
      rw [kCt_c (p := s) (n := c) (fun i hi => by rw [Nat.testBit_or, Nat.testBit_two_pow, decide_eq_false (by omega), Bool.or_false]), hb, decide_eq_true rfl]
      rfl
    · rw [kCt_or hb m (by omega), decide_eq_false q, Bool.or_false]
      omega
theorem kCt_full {s m : Nat} (hs : s < 2 ^ m) (h : kCt s m = m) : s = 2 ^ m - 1 := by
  refine Nat.eq_of_testBit_eq fun i => ?_
  rw [Nat.testBit_two_pow_sub_one]
  by_cases q : i < m
  · rw [decide_eq_true q]
    cases z : s.testBit i
    · have h1 := kCt_or z m q
      have h2 := kCt_b (s ||| 2 ^ i) m
      omega
    · rfl
  · rw [decide_eq_false q]
    exact Nat.testBit_lt_two_pow (Nat.lt_of_lt_of_le hs (Nat.pow_le_pow_right (by decide) (by omega)))
theorem kCt_fl : ∀ m, m ≤ 6 → kCt (2 ^ m - 1) m = m := by decide
/-- the ways of the class: behind a set with a last one -/
def kWy (D : Nat → Nat → Bool) (m t d : Nat) : Nat := kTn D m (m - kCt t m) t (D d)
theorem kWy_full {D : Nat → Nat → Bool} {m d : Nat} (hm : m ≤ 6) : kWy D m (2 ^ m - 1) d = 1 := by
  unfold kWy
  rw [kCt_fl m hm, Nat.sub_self]
  rfl
theorem kWy_s {D : Nat → Nat → Bool} {m t d : Nat} (ht : t < 2 ^ m) (h : ¬ t = 2 ^ m - 1) : kWy D m t d = kSgm (fun c => if (!t.testBit c && D d c) = true then kWy D m (t ||| 2 ^ c) c else 0) m := by
  have h1 := kCt_b t m
  have h2 : ¬ kCt t m = m := fun q => h (kCt_full ht q)
  obtain ⟨k, hk⟩ : ∃ k, m - kCt t m = k + 1 := ⟨m - kCt t m - 1, by omega⟩
  unfold kWy
  rw [hk, kTn_s]
  refine kSgm_c fun c hc => ?_
  unfold kT1
  by_cases q : (!t.testBit c && D d c) = true
  · rw [if_pos q, if_pos q]
    have hb : t.testBit c = false := by
      rw [Bool.and_eq_true] at q
      cases z : t.testBit c
      · rfl
      · rw [z] at q; exact absurd q.1 (by decide)
    rw [kCt_or hb m hc, show m - (kCt t m + 1) = k by omega]
  · rw [if_neg q, if_neg q]
/-- one term, by ways -/
theorem kT1_w {D : Nat → Nat → Bool} {m k t c : Nat} {Dl : Nat → Bool} (hk : kCt t m + (k + 1) = m) (hc : c < m) : kT1 D m k t Dl c = if (!t.testBit c && Dl c) = true then kWy D m (t ||| 2 ^ c) c else 0 := by
  unfold kT1 kWy
  by_cases q : (!t.testBit c && Dl c) = true
  · rw [if_pos q, if_pos q]
    have hb : t.testBit c = false := by
      rw [Bool.and_eq_true] at q
      cases z : t.testBit c
      · rfl
      · rw [z] at q; exact absurd q.1 (by decide)
    rw [kCt_or hb m hc, show m - (kCt t m + 1) = k by omega]
  · rw [if_neg q, if_neg q]
theorem kFiA_c {f h : Nat → Nat} {m : Nat} (q : ∀ i, i < m → f i = h i) : ∀ n i, i + n = m → kFiA f n i = kFiA h n i
  | 0, _, _ => rfl
  | n + 1, i, e => by
    unfold kFiA
    rw [q i (by omega), kFiA_c q n (i + 1) (by omega)]
theorem kOr_lt {t c m : Nat} (h : t < 2 ^ m) (hc : c < m) : t ||| 2 ^ c < 2 ^ m := Nat.or_lt_two_pow h (Nat.pow_lt_pow_right (by decide) hc)
theorem kOr_gt {t c : Nat} (hb : t.testBit c = false) : t < t ||| 2 ^ c := by
  refine Nat.lt_of_le_of_ne Nat.left_le_or fun q => ?_
  have : (t ||| 2 ^ c).testBit c = true := by rw [Nat.testBit_or, Nat.testBit_two_pow, decide_eq_true rfl, Bool.or_true]
  rw [← q, hb] at this
  exact absurd this (by decide)
theorem kSgm_pos {f : Nat → Nat} : ∀ {m : Nat}, 0 < kSgm f m → ∃ c, c < m ∧ 0 < f c
  | 0, h => absurd h (Nat.lt_irrefl 0)
  | m + 1, h => by
    unfold kSgm at h
    by_cases q : 0 < f m
    · exact ⟨m, by omega, q⟩
    · obtain ⟨c, h1, h2⟩ := kSgm_pos (f := f) (m := m) (by omega)
      exact ⟨c, by omega, h2⟩
theorem kFiA_pos {f : Nat → Nat} {m : Nat} : ∀ n i, i + n = m → (∃ c, i ≤ c ∧ c < m ∧ 0 < f c) → 0 < f (kFiA f n i) ∧ kFiA f n i < m
  | 0, i, h, ⟨c, h1, h2, _⟩ => absurd h1 (by omega)
  | n + 1, i, h, ⟨c, h1, h2, h3⟩ => by
    unfold kFiA
    by_cases q : 0 < f i
    · rw [if_pos q]; exact ⟨q, by omega⟩
    · rw [if_neg q]
      refine kFiA_pos n (i + 1) (by omega) ⟨c, ?_, h2, h3⟩
      refine Nat.lt_of_le_of_ne h1 (fun z => q ?_)
      rw [z]; exact h3
theorem kFi_pos {f : Nat → Nat} {m : Nat} (h : 0 < kSgm f m) : 0 < f (kFi f m) ∧ kFi f m < m := by
  obtain ⟨c, h1, h2⟩ := kSgm_pos h
  exact kFiA_pos m 0 (by omega) ⟨c, Nat.zero_le _, h1, h2⟩
def kDr (f : Nat → Int32) (off : Int32) (c d : Nat) : Bool := decide (¬ 0 < lg_cmp (if 0 < (f (2 * c)).toInt64 - (f (2 * d + 1)).toInt64 then (f (2 * c)).toInt64 - (f (2 * d + 1)).toInt64 else -((f (2 * c)).toInt64 - (f (2 * d + 1)).toInt64)) off.toInt64)
theorem kWy_b {D : Nat → Nat → Bool} {m t d : Nat} (hm : m ≤ 6) : kWy D m t d ≤ 46656 := Nat.le_trans (kTn_b hm _ _ _) (Nat.le_trans (Nat.pow_le_pow_right (by decide) (show m - kCt t m ≤ 6 by omega)) (by decide))
theorem kSgm_wb {D : Nat → Nat → Bool} {m t d n : Nat} (hm : m ≤ 6) (hn : n ≤ 6) : kSgm (fun c => if (!t.testBit c && D d c) = true then kWy D m (t ||| 2 ^ c) c else 0) n ≤ 300000 := Nat.le_trans (kSgm_b (b := 46656) (fun c hc => by split; exact kWy_b hm; exact Nat.zero_le _)) (by omega)
theorem kSgm_0b {D : Nat → Nat → Bool} {m n : Nat} (hm : m ≤ 6) (hn : n ≤ 6) : kSgm (fun c => kWy D m (2 ^ c) c) n ≤ 300000 := Nat.le_trans (kSgm_b (b := 46656) (fun c hc => kWy_b hm)) (by omega)
theorem kCt_0 : ∀ m, kCt 0 m = 0
  | 0 => rfl
  | m + 1 => by
    unfold kCt
    rw [kCt_0 m, kTb, Nat.zero_testBit]
    rfl
theorem kTn_0 {D : Nat → Nat → Bool} {m : Nat} (h1 : 1 ≤ m) : kTn D m m 0 (fun _ => true) = kSgm (fun c => kWy D m (2 ^ c) c) m := by
  obtain ⟨k, hk⟩ : ∃ k, m = k + 1 := ⟨m - 1, by omega⟩
  rw [show kTn D m m 0 (fun _ => true) = kTn D m (k + 1) 0 (fun _ => true) by rw [← hk], kTn_s]
  refine kSgm_c fun c hc => ?_
  rw [kT1_w (by rw [kCt_0]; omega) hc, Nat.zero_testBit, Nat.zero_or]
  rfl
