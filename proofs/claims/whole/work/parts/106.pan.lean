/-! A PANEL: sets of eleven, tried one by one -/
def kLow (r : Nat) : Nat := r &&& (r - 1)
def kClr (m : Nat) : Nat → Nat
  | 0 => m
  | p + 1 => kLow (kClr m p)
def kLsb (r : Nat) : Nat := r ^^^ (r &&& (r - 1))
def kCt (m : Nat) : Nat → Nat
  | 0 => 0
  | i + 1 => kCt m i + (m >>> i) % 2
def kIxA (m p : Nat) : Nat → Nat → Nat
  | 0, i => i
  | f + 1, i => if (m >>> i) % 2 = 1 ∧ kCt m i = p then i else kIxA m p f (i + 1)
def kIx (m p : Nat) : Nat := kIxA m p 11 0
def kPb (m p : Nat) : Bool := Nat.beq ((m >>> kIx m p) % 2) 1 && Nat.beq (kCt m (kIx m p)) p && Nat.blt (kIx m p) 11 && Nat.beq (kLsb (kClr m p)) (2 ^ kIx m p) && Nat.beq ((2047 ^^^ m) ||| 2 ^ kIx m p) (2047 ^^^ (m ^^^ (m &&& 2 ^ kIx m p))) && Nat.beq (kCt (m ^^^ (m &&& 2 ^ kIx m p)) 11 + 1) (kCt m 11) && Nat.blt (m ^^^ (m &&& 2 ^ kIx m p)) 2048
def kPall (m : Nat) : Nat → Bool
  | 0 => true
  | p + 1 => kPb m p && kPall m p
def kPal2 : Nat → Bool
  | 0 => true
  | m + 1 => kPall m (kCt m 11) && kPal2 m
set_option maxRecDepth 100000 in
theorem kPal2_t : kPal2 2048 = true := by decide +kernel
theorem kPall_p {m : Nat} : ∀ {n : Nat}, kPall m n = true → ∀ p, p < n → kPb m p = true
  | 0, _, p, hp => absurd hp (Nat.not_lt_zero p)
  | n + 1, h, p, hp => by
    unfold kPall at h
    rw [Bool.and_eq_true] at h
    by_cases q : p = n
    · rw [q]; exact h.1
    · exact kPall_p h.2 p (by omega)
theorem kPal2_m : ∀ {n : Nat}, kPal2 n = true → ∀ m, m < n → kPall m (kCt m 11) = true
  | 0, _, m, hm => absurd hm (Nat.not_lt_zero m)
  | n + 1, h, m, hm => by
    unfold kPal2 at h
    rw [Bool.and_eq_true] at h
    by_cases q : m = n
    · rw [q]; exact h.1
    · exact kPal2_m h.2 m (by omega)
theorem kPan_f {m p : Nat} (hm : m < 2048) (hp : p < kCt m 11) : (m >>> kIx m p) % 2 = 1 ∧ kCt m (kIx m p) = p ∧ kIx m p < 11 ∧ kLsb (kClr m p) = 2 ^ kIx m p ∧ (2047 ^^^ m) ||| 2 ^ kIx m p = 2047 ^^^ (m ^^^ (m &&& 2 ^ kIx m p)) ∧ kCt (m ^^^ (m &&& 2 ^ kIx m p)) 11 + 1 = kCt m 11 ∧ m ^^^ (m &&& 2 ^ kIx m p) < 2048 := by
  have h := kPall_p (kPal2_m kPal2_t m hm) p hp
  unfold kPb at h
  simp only [Bool.and_eq_true] at h
  obtain ⟨⟨⟨⟨⟨⟨h1, h2⟩, h3⟩, h4⟩, h5⟩, h6⟩, h7⟩ := h
  exact ⟨Nat.eq_of_beq_eq_true h1, Nat.eq_of_beq_eq_true h2, Nat.le_of_ble_eq_true h3, Nat.eq_of_beq_eq_true h4, Nat.eq_of_beq_eq_true h5, Nat.eq_of_beq_eq_true h6, Nat.le_of_ble_eq_true h7⟩
def kQb (m : Nat) : Bool := Nat.beq (kCt m 24) (kCt m 11) && Nat.beq (kCt (2047 ^^^ m) 24 + kCt m 11) 11 && Nat.blt (2047 ^^^ m) 2048
def kQal : Nat → Bool
  | 0 => true
  | m + 1 => kQb m && kQal m
theorem kQal_t : kQal 2048 = true := by decide +kernel
theorem kQal_m : ∀ {n : Nat}, kQal n = true → ∀ m, m < n → kQb m = true
  | 0, _, m, hm => absurd hm (Nat.not_lt_zero m)
  | n + 1, h, m, hm => by
    unfold kQal at h
    rw [Bool.and_eq_true] at h
    by_cases q : m = n
    · rw [q]; exact h.1
    · exact kQal_m h.2 m (by omega)
theorem kPan_q {m : Nat} (hm : m < 2048) : kCt m 24 = kCt m 11 ∧ kCt (2047 ^^^ m) 24 + kCt m 11 = 11 ∧ 2047 ^^^ m < 2048 := by
  have h := kQal_m kQal_t m hm
  unfold kQb at h
  simp only [Bool.and_eq_true] at h
  exact ⟨Nat.eq_of_beq_eq_true h.1.1, Nat.eq_of_beq_eq_true h.1.2, Nat.le_of_ble_eq_true h.2⟩
theorem kPan_0 : ∀ A, A < 11 → ∀ B, B < 11 → 9 ≤ kCt (2047 ^^^ (2047 &&& (2 ^ A ||| 2 ^ B))) 11 ∧ 2047 ^^^ (2047 &&& (2 ^ A ||| 2 ^ B)) < 2048 ∧ (2 ^ A ||| 2 ^ B) = 2047 ^^^ (2047 ^^^ (2047 &&& (2 ^ A ||| 2 ^ B))) := by decide +kernel
theorem kCt_b (m : Nat) : ∀ n, kCt m n ≤ n
  | 0 => Nat.le_refl _
  | n + 1 => by
    have := kCt_b m n
    unfold kCt
    omega
theorem kCt_m (m : Nat) : ∀ n k, kCt m n ≤ kCt m (n + k)
  | n, 0 => Nat.le_refl _
  | n, k + 1 => by
    have h := kCt_m m n k
    have e : kCt m (n + (k + 1)) = kCt m (n + k) + (m >>> (n + k)) % 2 := rfl
    omega
theorem kb_bit (n i : Nat) : (if n.testBit i then (1 : Int32) else 0) = nI ((n >>> i) % 2) := by
  rw [Nat.testBit_eq_decide_div_mod_eq, Nat.shiftRight_eq_div_pow]
  rcases Nat.mod_two_eq_zero_or_one (n / 2 ^ i) with h | h <;> rw [h] <;> rfl
theorem kBits_ct {n : Nat} : ∀ k, k ≤ 24 → kBits (nI n) k = nI (kCt n k)
  | 0, _ => rfl
  | k + 1, h => by
    unfold kBits kCt
    rw [kBits_ct k (by omega), kb_at _ (by omega), kb_n _ (by omega), kb_bit, nI_add]
theorem kHas_ct {n i : Nat} (hi : i < 24) : ((nI n >>> (nI i &&& 31)) &&& 1 = 1) ↔ (n >>> i) % 2 = 1 := by
  rw [kb_at _ (by omega), kb_n _ (by omega), kb_bit]
  exact nI_eq (b := 1) (by omega) (by omega)
def kLowB : Nat → Bool
  | 0 => true
  | r + 1 => (nI r &&& (nI r - 1) == nI (kLow r)) && (nI r &&& (-nI r) == nI (kLsb r)) && Nat.ble (kLow r) r && kLowB r
theorem kLowB_t : kLowB 2048 = true := by decide +kernel
theorem kLowB_m : ∀ {n : Nat}, kLowB n = true → ∀ r, r < n → nI r &&& (nI r - 1) = nI (kLow r) ∧ nI r &&& (-nI r) = nI (kLsb r) ∧ kLow r ≤ r
  | 0, _, m, hm => absurd hm (Nat.not_lt_zero m)
  | n + 1, h, m, hm => by
    unfold kLowB at h
    simp only [Bool.and_eq_true, beq_iff_eq] at h
    by_cases q : m = n
    · rw [q]; exact ⟨h.1.1.1, h.1.1.2, Nat.le_of_ble_eq_true h.1.2⟩
    · exact kLowB_m h.2 m (by omega)
theorem kLow_e {r : Nat} (h : r < 2048) : nI r &&& (nI r - 1) = nI (kLow r) ∧ nI r &&& (-nI r) = nI (kLsb r) ∧ kLow r ≤ r := kLowB_m kLowB_t r h
theorem kClr_le {m : Nat} (hm : m < 2048) : ∀ p, kClr m p < 2048
  | 0 => hm
  | p + 1 => by
    have h := kClr_le hm p
    have := (kLow_e h).2.2
    unfold kClr
    omega
/-- a number that is drawn, before it is cut to n -/
def kDw (x : Int32) : Int32 := x * 1103515245 + 12345
def kX16 (x : Int32) : Nat := x.toUInt32.toNat >>> 16
theorem kX16_e (x : Int32) : (x.toUInt32 >>> ((16 : Int32).toUInt32 &&& Int32.toUInt32 31)).toInt32 = nI (kX16 x) := by
  apply Int32.toBitVec_inj.mp
  have h : (x.toUInt32 >>> ((16 : Int32).toUInt32 &&& Int32.toUInt32 31)).toNat = kX16 x := by
    rw [UInt32.toNat_shiftRight]
    rfl
  show (x.toUInt32 >>> ((16 : Int32).toUInt32 &&& Int32.toUInt32 31)).toBitVec = BitVec.ofNat 32 (kX16 x)
  rw [← h]
  exact (BitVec.ofNat_toNat 32 _).trans (BitVec.setWidth_eq _) |>.symm
theorem kX16_lt (x : Int32) : kX16 x < 65536 := by
  unfold kX16
  have := x.toUInt32.toNat_lt
  rw [Nat.shiftRight_eq_div_pow]
  omega
/-- what i draws leave: the number drawn last, those that may still be, those drawn -/
def kPanA (x0 : Int32) (m0 : Nat) : Nat → Int32 × Nat × Nat
  | 0 => (x0, m0, 0)
  | i + 1 => (kDw (kPanA x0 m0 i).1, (kPanA x0 m0 i).2.1 ^^^ ((kPanA x0 m0 i).2.1 &&& 2 ^ kIx (kPanA x0 m0 i).2.1 (kX16 (kDw (kPanA x0 m0 i).1) % kCt (kPanA x0 m0 i).2.1 11)), (kPanA x0 m0 i).2.2 ||| 2 ^ kIx (kPanA x0 m0 i).2.1 (kX16 (kDw (kPanA x0 m0 i).1) % kCt (kPanA x0 m0 i).2.1 11))
theorem kPanA_i {x0 : Int32} {m0 q : Nat} (h9 : 9 ≤ kCt m0 11) (hm : m0 < 2048) (hq : q = 2047 ^^^ m0) : ∀ i, i ≤ 3 → 9 ≤ kCt (kPanA x0 m0 i).2.1 11 + i ∧ (kPanA x0 m0 i).2.1 < 2048 ∧ q ||| (kPanA x0 m0 i).2.2 = 2047 ^^^ (kPanA x0 m0 i).2.1
  | 0, _ => ⟨h9, hm, by rw [show (kPanA x0 m0 0).2.2 = 0 from rfl, Nat.or_zero]; exact hq⟩
  | i + 1, hi => by
    obtain ⟨h1, h2, h3⟩ := kPanA_i h9 hm hq i (by omega)
    have h5 := kPan_f (p := kX16 (kDw (kPanA x0 m0 i).1) % kCt (kPanA x0 m0 i).2.1 11) h2 (Nat.mod_lt _ (by omega))
    obtain ⟨-, -, -, -, g5, g6, g7⟩ := h5
    unfold kPanA
    dsimp only
    refine ⟨by omega, g7, ?_⟩
    rw [← Nat.or_assoc, h3, g5]
theorem kSet_id {f : Nat → Int32} (k : Nat) : kSet f k (f k) = f := funext fun j => by
  by_cases q : j = k
  · rw [q, kSet_s]
  · rw [kSet_n q]
theorem kSet_set (f : Nat → Int32) (k : Nat) (x y : Int32) : kSet (kSet f k x) k y = kSet f k y := funext fun j => by
  by_cases q : j = k
  · rw [q, kSet_s, kSet_s]
  · rw [kSet_n q, kSet_n q, kSet_n q]
