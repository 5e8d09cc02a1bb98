/-! LIKE CASES: counts of bits, places in a row sorted by insertion -/
theorem kTb (m i : Nat) : (m >>> i) % 2 = (m.testBit i).toNat := by rw [Nat.toNat_testBit, Nat.shiftRight_eq_div_pow]
theorem kCt_c {m p : Nat} : ∀ {n : Nat}, (∀ i, i < n → m.testBit i = p.testBit i) → kCt m n = kCt p n
  | 0, _ => rfl
  | n + 1, h => by
    unfold kCt
    rw [kCt_c (fun i hi => h i (by omega)), kTb, kTb, h n (by omega)]
theorem kCt_z {m n : Nat} (h : m < 2 ^ n) : ∀ j, kCt m (n + j) = kCt m n
  | 0 => rfl
  | j + 1 => by
    have e : kCt m (n + (j + 1)) = kCt m (n + j) + (m >>> (n + j)) % 2 := rfl
    have hb : m.testBit (n + j) = false := Nat.testBit_lt_two_pow (Nat.lt_of_lt_of_le h (Nat.pow_le_pow_right (by decide) (by omega)))
    rw [e, kCt_z h j, kTb, hb]
    rfl
theorem kCt_8 (m : Nat) : ∀ n, kCt m (8 + n) = kCt (m % 256) 8 + kCt (m / 256) n
  | 0 => by
    show kCt m 8 = kCt (m % 256) 8 + 0
    rw [Nat.add_zero]
    refine kCt_c fun i hi => ?_
    rw [show (256 : Nat) = 2 ^ 8 from rfl, Nat.testBit_mod_two_pow, decide_eq_true hi, Bool.true_and]
  | n + 1 => by
    have e1 : kCt m (8 + (n + 1)) = kCt m (8 + n) + (m >>> (8 + n)) % 2 := rfl
    have e2 : kCt (m / 256) (n + 1) = kCt (m / 256) n + ((m / 256) >>> n) % 2 := rfl
    have e3 : ((m / 256) >>> n) % 2 = (m >>> (8 + n)) % 2 := by
      rw [kTb, kTb, show (256 : Nat) = 2 ^ 8 from rfl, Nat.testBit_div_two_pow, Nat.add_comm]
    have := kCt_8 m n
    omega
theorem kCt_16 {m : Nat} (h : m < 65536) : kCt m 24 = kCt (m / 256) 24 + kCt (m % 256) 24 := by
  have h1 : kCt m 24 = kCt m 16 := kCt_z (n := 16) h 8
  have h2 : kCt (m / 256) 24 = kCt (m / 256) 8 := kCt_z (n := 8) (by omega) 16
  have h3 : kCt (m % 256) 24 = kCt (m % 256) 8 := kCt_z (n := 8) (by omega) 16
  have h4 : kCt m 16 = _ := kCt_8 m 8
  omega
theorem kXr_d (a b : Nat) : (a ^^^ b) / 256 = a / 256 ^^^ b / 256 := by
  apply Nat.eq_of_testBit_eq
  intro i
  rw [show (256 : Nat) = 2 ^ 8 from rfl, Nat.testBit_div_two_pow, Nat.testBit_xor, Nat.testBit_xor, Nat.testBit_div_two_pow, Nat.testBit_div_two_pow]
theorem kXr_m (a b : Nat) : (a ^^^ b) % 256 = a % 256 ^^^ b % 256 := by
  apply Nat.eq_of_testBit_eq
  intro i
  rw [show (256 : Nat) = 2 ^ 8 from rfl, Nat.testBit_mod_two_pow, Nat.testBit_xor, Nat.testBit_xor, Nat.testBit_mod_two_pow, Nat.testBit_mod_two_pow]
  cases decide (i < 8) <;> simp
/-- how many of the first k come ahead of x -/
def kCnt (key : Nat → Nat) (x : Nat) : Nat → Nat
  | 0 => 0
  | k + 1 => kCnt key x k + (if key k < key x then 1 else 0)
theorem kCnt_mono {key : Nat → Nat} {x y : Nat} (h : key x ≤ key y) : ∀ k, kCnt key x k ≤ kCnt key y k
  | 0 => Nat.le_refl _
  | k + 1 => by
    have := kCnt_mono h k
    unfold kCnt
    split <;> split <;> omega
theorem kCnt_lt {key : Nat → Nat} {x y : Nat} (h : key x < key y) : ∀ k, x < k → kCnt key x k + 1 ≤ kCnt key y k
  | 0, hx => absurd hx (Nat.not_lt_zero x)
  | k + 1, hx => by
    have hm := kCnt_mono (Nat.le_of_lt h) k
    unfold kCnt
    by_cases q : x = k
    · subst q
      rw [if_neg (Nat.lt_irrefl _), if_pos h]
      omega
    · have := kCnt_lt h k (by omega)
      split <;> split <;> omega
theorem kCnt_le (key : Nat → Nat) (x : Nat) : ∀ k, kCnt key x k ≤ k
  | 0 => Nat.le_refl _
  | k + 1 => by
    have := kCnt_le key x k
    unfold kCnt
    split <;> omega
/-- the place of each of the first k is how many come ahead of it -/
def kSrt (key A : Nat → Nat) (k : Nat) : Prop := ∀ p, p < k → A p < k ∧ kCnt key (A p) k = p
theorem kSrt_lt {key A : Nat → Nat} {k p q : Nat} (h : kSrt key A k) (hq : q < k) (hp : p < q) : key (A p) < key (A q) := by
  refine Nat.lt_of_not_le fun z => ?_
  have h1 := kCnt_mono z k
  rw [(h q hq).2, (h p (by omega)).2] at h1
  omega
/-- one more is put at its place -/
theorem kSrt_ins {key A B : Nat → Nat} {k at_ : Nat} (h : kSrt key A k) (ha : at_ ≤ k) (h1 : 0 < at_ → key (A (at_ - 1)) < key k) (h2 : ∀ p, at_ ≤ p → p < k → key k < key (A p)) (hB1 : ∀ p, p < at_ → B p = A p) (hB2 : B at_ = k) (hB3 : ∀ p, at_ ≤ p → p < k → B (p + 1) = A p) : kSrt key B (k + 1) := by
  have hk : kCnt key k k = at_ := by
    have hu : kCnt key k k ≤ at_ := by
      by_cases q : at_ = k
      · rw [q]; exact kCnt_le key k k
      · have := kCnt_mono (Nat.le_of_lt (h2 at_ (Nat.le_refl _) (by omega))) k
        rw [(h at_ (by omega)).2] at this
        exact this
    have hl : at_ ≤ kCnt key k k := by
      by_cases q : at_ = 0
      · rw [q]; exact Nat.zero_le _
      · have := kCnt_lt (h1 (by omega)) k (h (at_ - 1) (by omega)).1
        rw [(h (at_ - 1) (by omega)).2] at this
        omega
    omega
  intro p hp
  by_cases q1 : p < at_
  · rw [hB1 p q1]
    have hp2 := h p (by omega)
    refine ⟨by omega, ?_⟩
    unfold kCnt
    have hlt : key (A p) < key k := by
      by_cases z : p = at_ - 1
      · rw [z]; exact h1 (by omega)
      · exact Nat.lt_trans (kSrt_lt h (q := at_ - 1) (by omega) (by omega)) (h1 (by omega))
    rw [if_neg (by omega), hp2.2, Nat.add_zero]
  · by_cases q2 : p = at_
    · rw [q2, hB2]
      refine ⟨by omega, ?_⟩
      unfold kCnt
      rw [if_neg (Nat.lt_irrefl _), hk, Nat.add_zero]
    · obtain ⟨j, rfl⟩ : ∃ j, p = j + 1 := ⟨p - 1, by omega⟩
      rw [hB3 j (by omega) (by omega)]
      have hp2 := h j (by omega)
      refine ⟨by omega, ?_⟩
      unfold kCnt
      rw [if_pos (h2 j (by omega) (by omega)), hp2.2]
/-- the first with m ahead of it -/
def kLkA (key : Nat → Nat) (n m : Nat) : Nat → Nat → Nat
  | 0, _ => 0
  | f + 1, i => if kCnt key i n = m then i else kLkA key n m f (i + 1)
theorem kLkA_is {key : Nat → Nat} {n m y : Nat} (hy : y < n) (hm : kCnt key y n = m) (hinj : ∀ i, i < n → key i = key y → i = y) : ∀ f i, i + f = n → i ≤ y → kLkA key n m f i = y
  | 0, i, h1, h2 => absurd hy (by omega)
  | f + 1, i, h1, h2 => by
    unfold kLkA
    by_cases q : kCnt key i n = m
    · rw [if_pos q]
      refine hinj i (by omega) ?_
      rcases Nat.lt_trichotomy (key i) (key y) with z | z | z
      · have := kCnt_lt z n (by omega); omega
      · exact z
      · have := kCnt_lt z n hy; omega
    · rw [if_neg q]
      exact kLkA_is hy hm hinj f (i + 1) (by omega) (by
        refine Nat.lt_of_le_of_ne h2 (fun z => q ?_)
        rw [z]; exact hm)
def kLk (key : Nat → Nat) (n m : Nat) : Nat := kLkA key n m n 0
theorem kAbs : ∀ i, i < 100 → ∀ j, j < 100 → (if (0 : Int32) ≤ nI i - nI j then nI i - nI j else 0 - (nI i - nI j)) = nI (if i < j then j - i else i - j) := by decide +kernel
def kFn (g : Nat → Int32) (x : Nat) : Nat := (kFr2 g x).toNatClampNeg
def kSd (g : Nat → Int32) (x : Nat) : Nat := kN g (328 + 7 * x + 3)
def kD (g : Nat → Int32) (a b : Nat) : Nat := 10 * kCt (kFn g a ^^^ kFn g b) 24 + (if kSd g a < kSd g b then kSd g b - kSd g a else kSd g a - kSd g b)
def kKy (g : Nat → Int32) (x k : Nat) : Nat := kD g x k * 20 + k
theorem kGI.frN {g : Nat → Int32} (hg : kGI g) {x : Nat} (hx : x < kN g 2) : kFr2 g x = nI (kFn g x) ∧ kFn g x < 65536 ∧ kFresh g x 0 = nI (kFn g x / 256) ∧ kFresh g x 1 = nI (kFn g x % 256) ∧ g (328 + 7 * x + 3) = nI (kSd g x) ∧ kSd g x < 100 := by
  obtain ⟨k, hk, e1, e2, e3⟩ := hg.fr hx
  have e : kFn g x = k := by unfold kFn; rw [e1, nI_clamp (by omega)]
  have hs := (hg.2.2.2.2.2.1 x hx).2.2.1.n (by omega)
  rw [e]
  exact ⟨e1, hk, e2, e3, hs.1, Nat.lt_of_le_of_lt hs.2 (by decide)⟩
theorem kD_sym (g : Nat → Int32) (a b : Nat) : kD g a b = kD g b a := by
  unfold kD
  rw [Nat.xor_comm]
  split <;> split <;> omega
theorem kD_lt {g : Nat → Int32} (hg : kGI g) {a b : Nat} (ha : a < kN g 2) (hb : b < kN g 2) : kD g a b < 1000 := by
  have h1 := (hg.frN ha).2.2.2.2.2
  have h2 := (hg.frN hb).2.2.2.2.2
  have h3 := kCt_b (kFn g a ^^^ kFn g b) 24
  unfold kD
  split <;> omega
theorem kD_x {g : Nat → Int32} (hg : kGI g) {a b : Nat} (ha : a < kN g 2) (hb : b < kN g 2) : 10 * kBC (kFr2 g a ^^^ kFr2 g b) + (if (0 : Int32) ≤ g (328 + 7 * a + 3) - g (328 + 7 * b + 3) then g (328 + 7 * a + 3) - g (328 + 7 * b + 3) else 0 - (g (328 + 7 * a + 3) - g (328 + 7 * b + 3))) = nI (kD g a b) := by
  obtain ⟨e1, l1, -, -, s1, t1⟩ := hg.frN ha
  obtain ⟨e2, l2, -, -, s2, t2⟩ := hg.frN hb
  have hx : kFn g a ^^^ kFn g b < 65536 := Nat.xor_lt_two_pow (n := 16) l1 l2
  rw [e1, e2, s1, s2, kAbs _ t1 _ t2, kn_xor, kBC_e (by omega), kBits_ct 24 (by omega)]
  exact kn_add (kn_mul (show (10 : Int32) = nI 10 from rfl) rfl) rfl
theorem kD_m {g : Nat → Int32} (hg : kGI g) {a b : Nat} (ha : a < kN g 2) (hb : b < kN g 2) : (if (0 : Int32) ≤ g (328 + 7 * a + 3) - g (328 + 7 * b + 3) then g (328 + 7 * a + 3) - g (328 + 7 * b + 3) else 0 - (g (328 + 7 * a + 3) - g (328 + 7 * b + 3))) + 10 * kBits (kFresh g a 0 ^^^ kFresh g b 0) 24 + 10 * kBits (kFresh g a 1 ^^^ kFresh g b 1) 24 = nI (kD g a b) := by
  obtain ⟨-, l1, f1, h1, s1, t1⟩ := hg.frN ha
  obtain ⟨-, l2, f2, h2, s2, t2⟩ := hg.frN hb
  have hx : kFn g a ^^^ kFn g b < 65536 := Nat.xor_lt_two_pow (n := 16) l1 l2
  rw [f1, f2, h1, h2, s1, s2, kAbs _ t1 _ t2, kn_xor, kn_xor, kBits_ct 24 (by omega), kBits_ct 24 (by omega), ← kXr_d, ← kXr_m]
  refine (kn_add (kn_add rfl (kn_mul (show (10 : Int32) = nI 10 from rfl) rfl)) (kn_mul (show (10 : Int32) = nI 10 from rfl) rfl)).trans (congrArg nI ?_)
  unfold kD
  rw [kCt_16 hx]
  omega
