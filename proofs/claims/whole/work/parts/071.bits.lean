/-! INT32 BY ITS BITS: the class's dents are the model's -/
def kb (x : Int32) (i : Nat) : Bool := x.toBitVec.getLsbD i
theorem kb_ext {x y : Int32} (h : ∀ i, i < 32 → kb x i = kb y i) : x = y := Int32.toBitVec_inj.mp (BitVec.eq_of_getLsbD_eq (fun i hi => h i hi))
theorem kb_or (x y : Int32) (i : Nat) : kb (x ||| y) i = (kb x i || kb y i) := by unfold kb; rw [Int32.toBitVec_or, BitVec.getLsbD_or]
theorem kb_and (x y : Int32) (i : Nat) : kb (x &&& y) i = (kb x i && kb y i) := by unfold kb; rw [Int32.toBitVec_and, BitVec.getLsbD_and]
theorem kb_xor (x y : Int32) (i : Nat) : kb (x ^^^ y) i = (kb x i ^^ kb y i) := by unfold kb; rw [Int32.toBitVec_xor, BitVec.getLsbD_xor]
theorem kb_m1 : ∀ i, i < 32 → kb (-1) i = true := by decide +kernel
theorem kb_0 (i : Nat) : kb 0 i = false := BitVec.getLsbD_zero
theorem kb_n (n : Nat) {i : Nat} (hi : i < 32) : kb (nI n) i = n.testBit i := by
  show (BitVec.ofNat 32 n).getLsbD i = _
  rw [BitVec.getLsbD_ofNat, decide_eq_true hi, Bool.true_and]
theorem kb_sl : ∀ n, n < 32 → ((nI n &&& 31).toBitVec.smod 32).toNat = n := by decide +kernel
theorem kb_shl (n : Nat) (hn : n < 32) (x : Int32) {i : Nat} (hi : i < 32) : kb (x <<< (nI n &&& 31)) i = (decide (n ≤ i) && kb x (i - n)) := by
  unfold kb
  rw [Int32.toBitVec_shiftLeft]
  show (x.toBitVec <<< ((nI n &&& 31).toBitVec.smod 32).toNat).getLsbD i = _
  rw [kb_sl n hn, BitVec.getLsbD_shiftLeft]
  rcases Nat.lt_or_ge i n with h | h
  · simp [h, Nat.not_le.mpr h]
  · simp [hi, h, Nat.not_lt.mpr h]
theorem kb_shr (n : Nat) (hn : n < 32) (x : Int32) {i : Nat} (hi : i < 32) : kb (x >>> (nI n &&& 31)) i = if n + i < 32 then kb x (n + i) else kb x 31 := by
  unfold kb
  rw [Int32.toBitVec_shiftRight]
  show (x.toBitVec.sshiftRight ((nI n &&& 31).toBitVec.smod 32).toNat).getLsbD i = _
  rw [kb_sl n hn, BitVec.getLsbD_sshiftRight, BitVec.msb_eq_getLsbD_last]
  simp [hi]
theorem kn_and (a b : Nat) : nI a &&& nI b = nI (a &&& b) := kb_ext fun i hi => by rw [kb_and, kb_n _ hi, kb_n _ hi, kb_n _ hi, Nat.testBit_and]
theorem kn_or (a b : Nat) : nI a ||| nI b = nI (a ||| b) := kb_ext fun i hi => by rw [kb_or, kb_n _ hi, kb_n _ hi, kb_n _ hi, Nat.testBit_or]
theorem kn_xor (a b : Nat) : nI a ^^^ nI b = nI (a ^^^ b) := kb_ext fun i hi => by rw [kb_xor, kb_n _ hi, kb_n _ hi, kb_n _ hi, Nat.testBit_xor]
theorem kb_andn (x y : Int32) : x &&& (y ^^^ (-1)) = x ^^^ (x &&& y) := kb_ext fun i hi => by
  rw [kb_and, kb_xor, kb_xor, kb_and, kb_m1 i hi]
  cases kb x i <;> cases kb y i <;> rfl
theorem kn_shr {k n : Nat} (hk : k < 2147483648) (hn : n < 32) : nI k >>> (nI n &&& 31) = nI (k / 2 ^ n) := kb_ext fun i hi => by
  rw [kb_shr n hn _ hi, kb_n _ hi, Nat.testBit_div_two_pow]
  split
  · rename_i h; rw [kb_n _ h, Nat.add_comm]
  · rename_i h
    rw [kb_n _ (by omega)]
    have hp : 2 ^ 31 ≤ 2 ^ (i + n) := Nat.pow_le_pow_right (by decide) (by omega)
    rw [Nat.testBit_lt_two_pow (show k < 2 ^ 31 by omega), Nat.testBit_lt_two_pow (show k < 2 ^ (i + n) by omega)]
theorem kn_255 (k : Nat) : nI k &&& 255 = nI (k % 256) := by
  show nI k &&& nI 255 = _
  rw [kn_and, show (255 : Nat) = 2 ^ 8 - 1 from rfl, Nat.and_two_pow_sub_one_eq_mod]
theorem kn_1 (k : Nat) : nI k &&& 1 = nI (k % 2) := by
  show nI k &&& nI 1 = _
  rw [kn_and, show (1 : Nat) = 2 ^ 1 - 1 from rfl, Nat.and_two_pow_sub_one_eq_mod]
/-- a bit of a set, as it is asked for -/
theorem kb_at (x : Int32) {n : Nat} (hn : n < 32) : (x >>> (nI n &&& 31)) &&& 1 = if kb x n then 1 else 0 := kb_ext fun i hi => by
  rw [kb_and, kb_shr n hn _ hi, show (1 : Int32) = nI 1 from rfl, kb_n _ hi]
  rcases Nat.eq_zero_or_pos i with rfl | h
  · rw [Nat.add_zero, if_pos hn]
    cases kb x n <;> decide
  · rw [show (1 : Nat).testBit i = false from Nat.testBit_lt_two_pow (Nat.lt_of_lt_of_le (by decide) (Nat.pow_le_pow_right (n := 2) (by decide) h)), Bool.and_false]
    cases kb x n
    · exact (kb_0 i).symm
    · show false = kb (nI 1) i
      rw [kb_n _ hi, Nat.testBit_lt_two_pow (Nat.lt_of_lt_of_le (by decide) (Nat.pow_le_pow_right (n := 2) (by decide) h))]
theorem kb_an (x : Int32) {n : Nat} (hn : n < 32) : (x >>> (nI n &&& 31)) &&& 1 = 1 ↔ ¬ (x >>> (nI n &&& 31)) &&& 1 = 0 := by
  rw [kb_at x hn]
  cases kb x n <;> decide
/-! ### the dents -/
theorem kn_hi {d o p : Nat} (hp : p < 256) : (d ^^^ (d &&& (256 * o + p))) / 256 = (d / 256) ^^^ (d / 256 &&& o) := by
  have e : (256 * o + p) / 2 ^ 8 = o := by omega
  rw [show (256 : Nat) = 2 ^ 8 from rfl, Nat.xor_div_two_pow, Nat.and_div_two_pow, show 2 ^ 8 * o + p = 256 * o + p from rfl, e]
theorem kn_lo {d o p : Nat} (hp : p < 256) : (d ^^^ (d &&& (256 * o + p))) % 256 = (d % 256) ^^^ (d % 256 &&& p) := by
  have e : (256 * o + p) % 2 ^ 8 = p := by omega
  rw [show (256 : Nat) = 2 ^ 8 from rfl, Nat.xor_mod_two_pow, Nat.and_mod_two_pow, show 2 ^ 8 * o + p = 256 * o + p from rfl, e]
theorem kn_256 (n : Nat) : 256 * nI n = nI (256 * n) := (kn_mul (show (256 : Int32) = nI 256 from rfl) rfl)
/-- the numbers behind a crash's dents -/
theorem kGI.dents {g : Nat → Int32} (h : kGI g) {x : Nat} (hx : x < kN g 2) : ∃ d o p : Nat, d < 65536 ∧ o < 256 ∧ p < 256 ∧ g (328 + 7 * x + 4) = nI d ∧ g (40 + 8 * kCarOf g x 0 + 4) = nI o ∧ g (40 + 8 * kCarOf g x 1 + 4) = nI p := by
  have hd := (h.2.2.2.2.2.1 x hx).2.2.2.1
  have h0 := (h.2.2.2.1 _ (h.carOf hx (show 0 < 2 by decide)).2).2.2.2.2.1
  have h1 := (h.2.2.2.1 _ (h.carOf hx (show 1 < 2 by decide)).2).2.2.2.2.1
  obtain ⟨d, hd, ed⟩ := hd
  obtain ⟨o, ho, eo⟩ := h0
  obtain ⟨p, hp, ep⟩ := h1
  exact ⟨d, o, p, by omega, by omega, by omega, ed, eo, ep⟩
theorem kGI.fr {g : Nat → Int32} (h : kGI g) {x : Nat} (hx : x < kN g 2) : ∃ k : Nat, k < 65536 ∧ kFr2 g x = nI k ∧ kFresh g x 0 = nI (k / 256) ∧ kFresh g x 1 = nI (k % 256) := by
  obtain ⟨d, o, p, hd, ho, hp, ed, eo, ep⟩ := h.dents hx
  have hk : d ^^^ (d &&& (256 * o + p)) < 65536 := Nat.xor_lt_two_pow (n := 16) hd (Nat.lt_of_le_of_lt Nat.and_le_left hd)
  refine ⟨d ^^^ (d &&& (256 * o + p)), hk, ?_, ?_, ?_⟩
  · unfold kFr2
    rw [ed, eo, ep, kb_andn, kn_256, nI_add, kn_and, kn_xor]
  · unfold kFresh
    rw [if_pos rfl, ed, eo, show (8 : Int32) = nI 8 from rfl, kn_shr (by omega) (by omega), kb_andn, kn_and, kn_xor, kn_hi hp]
  · unfold kFresh
    rw [if_neg (by decide), ed, ep, kn_255, kb_andn, kn_and, kn_xor, kn_lo hp]
theorem kGI.fr0 {g : Nat → Int32} (h : kGI g) {x : Nat} (hx : x < kN g 2) : kFr2 g x >>> ((8 : Int32) &&& 31) = kFresh g x 0 := by
  obtain ⟨k, hk, e, e0, -⟩ := h.fr hx
  rw [e, e0, show (8 : Int32) = nI 8 from rfl, kn_shr (by omega) (by omega)]
theorem kGI.fr1 {g : Nat → Int32} (h : kGI g) {x : Nat} (hx : x < kN g 2) : kFr2 g x &&& 255 = kFresh g x 1 := by
  obtain ⟨k, hk, e, -, e1⟩ := h.fr hx
  rw [e, e1, kn_255]
theorem kGI.fr2 {g : Nat → Int32} (h : kGI g) {x : Nat} (hx : x < kN g 2) : 256 * kFresh g x 0 + kFresh g x 1 = kFr2 g x := by
  obtain ⟨k, hk, e, e0, e1⟩ := h.fr hx
  rw [e, e0, e1, kn_256, nI_add]
  congr 1
  omega
