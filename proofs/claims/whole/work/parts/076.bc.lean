/-! HOW MANY ARE IN A SET: Integer.bitCount, and the model's own counting -/
def kPc (n : Nat) : Nat → Nat
  | 0 => 0
  | k + 1 => kPc n k + n / 2 ^ k % 2
theorem kBits_n {n : Nat} (h : n < 2147483648) : ∀ k, k < 32 → kBits (nI n) k = nI (kPc n k)
  | 0, _ => rfl
  | k + 1, hk => by
    rw [kBits, kPc, kBits_n h k (by omega), kn_shr h (by omega), kn_1, nI_add]
def kBa (x : Nat) : Nat := x - (x / 2 &&& 85)
def kBb (a : Nat) : Nat := (a &&& 51) + (a / 4 &&& 51)
def kBd (b : Nat) : Nat := (b + b / 16) % 16
theorem kBC_1 : ∀ x, x < 256 → (x / 2 &&& 85) ≤ x ∧ (x / 2 + 128 &&& 85) = (x / 2 &&& 85) ∧ kBa x < 256 ∧ kBb (kBa x) % 16 ≤ 4 ∧ kBb (kBa x) / 16 ≤ 4 ∧ kBd (kBb (kBa x)) = kPc x 8 ∧ kPc x 8 ≤ 8 := by decide +kernel
theorem kBC_2 : ∀ a, a < 256 → ∀ t, t < 4 → (a / 4 + 64 * t &&& 51) = (a / 4 &&& 51) := by decide +kernel
theorem kBC_2b : ∀ a, a < 256 → (a &&& 51) ≤ 51 ∧ (a / 4 &&& 51) ≤ 51 := by decide +kernel
theorem kn_and8 {x m : Nat} (y k : Nat) (hx : x < 256) (hm : m < 256) : (x + 256 * y) &&& (m + 256 * k) = (x &&& m) + 256 * (y &&& k) := by
  have h1 : ((x + 256 * y) &&& (m + 256 * k)) % 2 ^ 8 = (x &&& m) := by
    rw [Nat.and_mod_two_pow, show (x + 256 * y) % 2 ^ 8 = x by omega, show (m + 256 * k) % 2 ^ 8 = m by omega]
  have h2 : ((x + 256 * y) &&& (m + 256 * k)) / 2 ^ 8 = (y &&& k) := by
    rw [Nat.and_div_two_pow, show (x + 256 * y) / 2 ^ 8 = y by omega, show (m + 256 * k) / 2 ^ 8 = k by omega]
  omega
theorem kn_and4 {a b c d : Nat} (m : Nat) (ha : a < 256) (hb : b < 256) (hc : c < 256) (hm : m < 256) : (a + 256 * (b + 256 * (c + 256 * d))) &&& (m + 256 * (m + 256 * (m + 256 * m))) = (a &&& m) + 256 * ((b &&& m) + 256 * ((c &&& m) + 256 * (d &&& m))) := by
  rw [kn_and8 _ _ ha hm, kn_and8 _ _ hb hm, kn_and8 _ _ hc hm]
theorem kn_uc : ∀ j : Fin 32, ((nI j.val).toUInt32 &&& Int32.toUInt32 31).toNat % 32 = j.val := by decide +kernel
theorem kn_ushr {k j : Nat} (hk : k < 2147483648) (hj : j < 32) : ((nI k).toUInt32 >>> ((nI j).toUInt32 &&& Int32.toUInt32 31)).toInt32 = nI (k / 2 ^ j) := by
  have hs : k / 2 ^ j ≤ k := Nat.div_le_self _ _
  have e2 : (nI k).toUInt32 >>> ((nI j).toUInt32 &&& Int32.toUInt32 31) = UInt32.ofNat (k / 2 ^ j) := by
    apply UInt32.toNat_inj.1
    have h1 : (nI k).toUInt32.toNat = k := Nat.mod_eq_of_lt (by omega)
    have h2 : (UInt32.ofNat (k / 2 ^ j)).toNat = k / 2 ^ j := Nat.mod_eq_of_lt (by omega)
    rw [UInt32.toNat_shiftRight, kn_uc ⟨j, hj⟩, h1, h2, Nat.shiftRight_eq_div_pow]
  rw [e2]
  rfl
theorem kPc_8 {x y : Nat} (hx : x < 256) : ∀ k, kPc (x + 256 * y) (8 + k) = kPc x 8 + kPc y k
  | 0 => by
    simp only [kPc, Nat.add_zero]
    omega
  | k + 1 => by
    rw [← Nat.add_assoc, kPc, kPc_8 hx k, kPc, Nat.pow_add, ← Nat.div_div_eq_div_mul, show (x + 256 * y) / 2 ^ 8 = y by omega, Nat.add_assoc]
    rfl
theorem kBC_3 {r s t : Nat} (hr : r ≤ 8) (hs : s ≤ 8) (ht : t ≤ 8) : (r + 256 * (s + 256 * t) + (r + 256 * (s + 256 * t)) / 256 + (r + 256 * (s + 256 * t) + (r + 256 * (s + 256 * t)) / 256) / 65536) % 2 ^ 6 = r + (s + t) := by
  rw [show (r + 256 * (s + 256 * t)) / 256 = s + 256 * t by omega, show (r + 256 * (s + 256 * t) + (s + 256 * t)) / 65536 = t by omega]
  omega
theorem kBC_n {n : Nat} (h : n < 16777216) : kBC (nI n) = nI (kPc n 24) := by
  obtain ⟨x, y, z, hx, hy, hz, rfl⟩ : ∃ x y z, x < 256 ∧ y < 256 ∧ z < 256 ∧ n = x + 256 * (y + 256 * z) := ⟨n % 256, n / 256 % 256, n / 65536, by omega, by omega, by omega, by omega⟩
  obtain ⟨x1, x2, x3, x4, x5, x6, x7⟩ := kBC_1 x hx
  obtain ⟨y1, y2, y3, y4, y5, y6, y7⟩ := kBC_1 y hy
  obtain ⟨z1, z2, z3, z4, z5, z6, z7⟩ := kBC_1 z hz
  have p : kPc (x + 256 * (y + 256 * z)) 24 = kPc x 8 + (kPc y 8 + kPc z 8) := by
    rw [show (24 : Nat) = 8 + 16 from rfl, kPc_8 hx, show (16 : Nat) = 8 + 8 from rfl, kPc_8 hy]
  have h85 : ∀ u v : Nat, u < 256 → ((u / 2 + 128 &&& 85) = (u / 2 &&& 85)) → (u / 2 + 128 * (v % 2) &&& 85) = (u / 2 &&& 85) := by
    intro u v _ hu
    rcases (show v % 2 = 0 ∨ v % 2 = 1 by omega) with q | q <;> rw [q]
    · rfl
    · exact hu
  have a1 : (x + 256 * (y + 256 * z)) / 2 &&& 1431655765 = (x / 2 &&& 85) + 256 * ((y / 2 &&& 85) + 256 * (z / 2 &&& 85)) := by
    rw [show (x + 256 * (y + 256 * z)) / 2 = (x / 2 + 128 * (y % 2)) + 256 * ((y / 2 + 128 * (z % 2)) + 256 * (z / 2 + 256 * 0)) by omega, show (1431655765 : Nat) = 85 + 256 * (85 + 256 * (85 + 256 * 85)) from rfl, kn_and4 85 (by omega) (by omega) (by omega) (by omega), h85 x y hx x2, h85 y z hy y2, Nat.zero_and, Nat.mul_zero, Nat.add_zero]
  have a2 : (x + 256 * (y + 256 * z)) - ((x + 256 * (y + 256 * z)) / 2 &&& 1431655765) = kBa x + 256 * (kBa y + 256 * (kBa z + 256 * 0)) := by
    rw [a1]; unfold kBa; omega
  generalize kBa x = a at *
  generalize kBa y = b at *
  generalize kBa z = c at *
  have b1 : (a + 256 * (b + 256 * (c + 256 * 0))) &&& 858993459 = (a &&& 51) + 256 * ((b &&& 51) + 256 * (c &&& 51)) := by
    rw [show (858993459 : Nat) = 51 + 256 * (51 + 256 * (51 + 256 * 51)) from rfl, kn_and4 51 x3 y3 z3 (by omega), Nat.zero_and, Nat.mul_zero, Nat.add_zero]
  have b2 : (a + 256 * (b + 256 * (c + 256 * 0))) / 4 &&& 858993459 = (a / 4 &&& 51) + 256 * ((b / 4 &&& 51) + 256 * (c / 4 &&& 51)) := by
    rw [show (a + 256 * (b + 256 * (c + 256 * 0))) / 4 = (a / 4 + 64 * (b % 4)) + 256 * ((b / 4 + 64 * (c % 4)) + 256 * (c / 4 + 256 * 0)) by omega, show (858993459 : Nat) = 51 + 256 * (51 + 256 * (51 + 256 * 51)) from rfl, kn_and4 51 (by omega) (by omega) (by omega) (by omega), kBC_2 a x3 _ (by omega), kBC_2 b y3 _ (by omega), Nat.zero_and, Nat.mul_zero, Nat.add_zero]
  have b3 : ((a + 256 * (b + 256 * (c + 256 * 0))) &&& 858993459) + ((a + 256 * (b + 256 * (c + 256 * 0))) / 4 &&& 858993459) = kBb a + 256 * (kBb b + 256 * kBb c) := by
    rw [b1, b2]; unfold kBb; omega
  have hA : a + 256 * (b + 256 * (c + 256 * 0)) < 2147483648 := by omega
  have e1 : kBC (nI (x + 256 * (y + 256 * z))) = nI (((kBb a + 256 * (kBb b + 256 * kBb c) + (kBb a + 256 * (kBb b + 256 * kBb c)) / 16) &&& 252645135) + ((kBb a + 256 * (kBb b + 256 * kBb c) + (kBb a + 256 * (kBb b + 256 * kBb c)) / 16) &&& 252645135) / 256 + (((kBb a + 256 * (kBb b + 256 * kBb c) + (kBb a + 256 * (kBb b + 256 * kBb c)) / 16) &&& 252645135) + ((kBb a + 256 * (kBb b + 256 * kBb c) + (kBb a + 256 * (kBb b + 256 * kBb c)) / 16) &&& 252645135) / 256) / 65536 &&& 63) := by
    have hn : x + 256 * (y + 256 * z) < 2147483648 := by omega
    have hB : kBb a + 256 * (kBb b + 256 * kBb c) < 16777216 := by omega
    have hC : ((kBb a + 256 * (kBb b + 256 * kBb c) + (kBb a + 256 * (kBb b + 256 * kBb c)) / 16) &&& 252645135) ≤ 252645135 := Nat.and_le_right
    have r1 := kn_ushr (j := 1) hn (by omega)
    have r2 := kn_ushr (j := 2) hA (by omega)
    have r3 := kn_ushr (k := kBb a + 256 * (kBb b + 256 * kBb c)) (j := 4) (by omega) (by omega)
    have s1 : nI (x + 256 * (y + 256 * z)) - (nI ((x + 256 * (y + 256 * z)) / 2) &&& 1431655765) = nI (a + 256 * (b + 256 * (c + 256 * 0))) := by
      rw [show (1431655765 : Int32) = nI 1431655765 from rfl, kn_and, kn_sub rfl rfl (by rw [a1]; omega), a2]
    have s2 : (nI (a + 256 * (b + 256 * (c + 256 * 0))) &&& 858993459) + (nI ((a + 256 * (b + 256 * (c + 256 * 0))) / 4) &&& 858993459) = nI (kBb a + 256 * (kBb b + 256 * kBb c)) := by
      rw [show (858993459 : Int32) = nI 858993459 from rfl, kn_and, kn_and, nI_add, b3]
    unfold kBC
    simp only []
    rw [show (1 : Int32) = nI 1 from rfl, r1, show (2 : Nat) ^ 1 = 2 from rfl, s1, show (2 : Int32) = nI 2 from rfl, r2, show (2 : Nat) ^ 2 = 4 from rfl, s2, show (4 : Int32) = nI 4 from rfl, r3, show (2 : Nat) ^ 4 = 16 from rfl, nI_add, show (252645135 : Int32) = nI 252645135 from rfl, kn_and]
    generalize ((kBb a + 256 * (kBb b + 256 * kBb c) + (kBb a + 256 * (kBb b + 256 * kBb c)) / 16) &&& 252645135) = C at *
    rw [show (8 : Int32) = nI 8 from rfl, kn_ushr (k := C) (j := 8) (by omega) (by omega), show (2 : Nat) ^ 8 = 256 from rfl, nI_add, show (16 : Int32) = nI 16 from rfl, kn_ushr (k := C + C / 256) (j := 16) (by omega) (by omega), show (2 : Nat) ^ 16 = 65536 from rfl, nI_add, show (63 : Int32) = nI 63 from rfl, kn_and]
  rw [e1, p, ← x6, ← y6, ← z6]
  have q15 : ∀ s : Nat, (s &&& 15) = s % 16 := fun s => Nat.and_two_pow_sub_one_eq_mod s 4
  have c1 : (kBb a + 256 * (kBb b + 256 * kBb c) + (kBb a + 256 * (kBb b + 256 * kBb c)) / 16) &&& 252645135 = kBd (kBb a) + 256 * (kBd (kBb b) + 256 * kBd (kBb c)) := by
    rw [show kBb a + 256 * (kBb b + 256 * kBb c) + (kBb a + 256 * (kBb b + 256 * kBb c)) / 16 = (kBb a + kBb a / 16 + 16 * (kBb b % 16)) + 256 * ((kBb b + kBb b / 16 + 16 * (kBb c % 16)) + 256 * ((kBb c + kBb c / 16) + 256 * 0)) by omega, show (252645135 : Nat) = 15 + 256 * (15 + 256 * (15 + 256 * 15)) from rfl, kn_and4 15 (by omega) (by omega) (by omega) (by omega), q15, q15, q15, Nat.zero_and, Nat.mul_zero, Nat.add_zero]
    unfold kBd
    omega
  rw [c1]
  rw [← x6] at x7; rw [← y6] at y7; rw [← z6] at z7
  generalize kBd (kBb a) = r at *
  generalize kBd (kBb b) = s at *
  generalize kBd (kBb c) = t at *
  congr 1
  rw [show (63 : Nat) = 2 ^ 6 - 1 from rfl, Nat.and_two_pow_sub_one_eq_mod]
  exact kBC_3 x7 y7 z7
theorem kBC_e {n : Nat} (h : n < 16777216) : kBC (nI n) = kBits (nI n) 24 := by rw [kBC_n h, kBits_n (by omega) 24 (by omega)]
