/-! WORTH: the class's whole numbers and the model's long ones -/
theorem kGI.rate {g : Nat → Int32} (h : kGI g) {k n : Nat} (hk : kTop[k]? = some n) : kUp (g (8 + k)) n := h.2.1 k n hk
theorem kGI.zone {g : Nat → Int32} (h : kGI g) {z t n : Nat} (hz : z < 8) (ht : kZt[t]? = some n) : kUp (g (16 + 3 * z + t)) n := h.2.2.1 z hz t n ht
theorem kUp.add {a b : Int32} {n m : Nat} (ha : kUp a n) (hb : kUp b m) : kUp (a + b) (n + m) := by
  obtain ⟨i, hi, rfl⟩ := ha
  obtain ⟨j, hj, rfl⟩ := hb
  exact ⟨i + j, by omega, nI_add i j⟩
theorem kUp.mul {a b : Int32} {n m : Nat} (ha : kUp a n) (hb : kUp b m) : kUp (a * b) (n * m) := by
  obtain ⟨i, hi, rfl⟩ := ha
  obtain ⟨j, hj, rfl⟩ := hb
  exact ⟨i * j, Nat.mul_le_mul hi hj, pk_mul i j⟩
theorem kUp.wk {a : Int32} {n m : Nat} (ha : kUp a n) (h : n ≤ m) : kUp a m := by
  obtain ⟨i, hi, rfl⟩ := ha
  exact ⟨i, by omega, rfl⟩
theorem kZnA_01 {g : Nat → Int32} {fr : Int32} {t z : Nat} (ht : ¬ t = 2) : kZnA g fr t (z + 1) = kZnA g fr t z + (if (fr >>> (nI z &&& 31)) &&& 1 = 1 then g (16 + 3 * z + t) else 0) := by
  conv => lhs; unfold kZnA
  rw [if_neg ht]
theorem kZnA_2 {g : Nat → Int32} {fr : Int32} {z : Nat} : kZnA g fr 2 (z + 1) = if kZnA g fr 2 z < (if (fr >>> (nI z &&& 31)) &&& 1 = 1 then g (16 + 3 * z + 2) else 0) then (if (fr >>> (nI z &&& 31)) &&& 1 = 1 then g (16 + 3 * z + 2) else 0) else kZnA g fr 2 z := by
  conv => lhs; unfold kZnA
  rw [if_pos rfl]
theorem kZnA_b {g : Nat → Int32} (h : kGI g) (fr : Int32) {t n : Nat} (ht : ¬ t = 2) (hn : kZt[t]? = some n) : ∀ z, z ≤ 8 → kUp (kZnA g fr t z) (n * z)
  | 0, _ => ⟨0, by omega, rfl⟩
  | z + 1, hz => by
    rw [kZnA_01 ht, Nat.mul_succ]
    refine (kZnA_b h fr ht hn z (by omega)).add ?_
    split
    · exact h.zone (by omega) hn
    · exact ⟨0, by omega, rfl⟩
theorem kZnA_b2 {g : Nat → Int32} (h : kGI g) (fr : Int32) : ∀ z, z ≤ 8 → kUp (kZnA g fr 2 z) 60
  | 0, _ => ⟨0, by omega, rfl⟩
  | z + 1, hz => by
    rw [kZnA_2]
    have hv : kUp (if (fr >>> (nI z &&& 31)) &&& 1 = 1 then g (16 + 3 * z + 2) else 0) 60 := by
      split
      · exact h.zone (t := 2) (by omega) rfl
      · exact ⟨0, by omega, rfl⟩
    generalize (if (fr >>> (nI z &&& 31)) &&& 1 = 1 then g (16 + 3 * z + 2) else 0) = y at hv ⊢
    split
    · exact hv
    · exact kZnA_b2 h fr z (by omega)
/-- a zone that isn't dented -/
theorem kZnA_n {g : Nat → Int32} (h : kGI g) {fr : Int32} {t z : Nat} (hz : z < 8) (hb : (fr >>> (nI z &&& 31)) &&& 1 = 0) : kZnA g fr t z = kZnA g fr t (z + 1) := by
  have hn : ¬ (fr >>> (nI z &&& 31)) &&& 1 = 1 := fun q => (kb_an fr (by omega)).mp q hb
  by_cases ht : t = 2
  · subst ht
    obtain ⟨j, hj, e⟩ := kZnA_b2 h fr z (by omega)
    rw [kZnA_2, if_neg hn, if_neg (fun q => by rw [e] at q; exact nI_pos (by omega) q)]
  · rw [kZnA_01 ht, if_neg hn, Int32.add_zero]
theorem kZnA_y {g : Nat → Int32} {fr : Int32} {t z : Nat} (ht : ¬ t = 2) (hz : z < 8) (hb : ¬ (fr >>> (nI z &&& 31)) &&& 1 = 0) : kZnA g fr t z + g (16 + 3 * z + t) = kZnA g fr t (z + 1) := by
  rw [kZnA_01 ht, if_pos ((kb_an fr (by omega)).mpr hb)]
theorem kZnA_y2 {g : Nat → Int32} {fr : Int32} {z : Nat} (hz : z < 8) (hb : ¬ (fr >>> (nI z &&& 31)) &&& 1 = 0) : (if kZnA g fr 2 z < g (16 + 3 * z + 2) then g (16 + 3 * z + 2) else kZnA g fr 2 z) = kZnA g fr 2 (z + 1) := by
  rw [kZnA_2, if_pos ((kb_an fr (by omega)).mpr hb)]
theorem kRep_b {g : Nat → Int32} (h : kGI g) (x s : Nat) : kUp (kRep g x s) 158400 := by
  have a := kZnA_b h (kFresh g x s) (t := 0) (by decide) rfl 8 (by omega)
  have b := kZnA_b h (kFresh g x s) (t := 1) (by decide) rfl 8 (by omega)
  have c := h.rate (k := 0) rfl
  exact (a.add (b.mul c)).wk (by decide)
theorem kBookA_b {g : Nat → Int32} (h : kGI g) {c : Nat} (hc : c < kN g 0) : ∀ k, kUp (kBookA g c k) 99999
  | 0 => (h.2.2.2.1 c hc).2.1
  | k + 1 => by
    obtain ⟨a, ha, e⟩ := kBookA_b h hc k
    obtain ⟨p, hp, e2⟩ := h.rate (k := 1) rfl
    have hm : a * (100 - p) ≤ 99999 * 100 := Nat.mul_le_mul ha (by omega)
    refine ⟨a * (100 - p) / 100, ?_, ?_⟩
    · have : a * (100 - p) / 100 ≤ 99999 * 100 / 100 := Nat.div_le_div_right hm
      omega
    · unfold kBookA
      rw [e, show g 9 = nI p from e2, kn_sub (show (100 : Int32) = nI 100 from rfl) rfl (by omega), pk_mul, show (100 : Int32) = nI 100 from rfl, pk_div (by omega) (by omega) (by omega)]
theorem kTot_i {g : Nat → Int32} (h : kGI g) {x s : Nat} (hx : x < kN g 2) (hs : s < 2) : kTot g x s ↔ ¬ kRep g x s ≤ kBook g (kCarOf g x s) * g 10 / 100 := by
  obtain ⟨r, hr, er⟩ := kRep_b h x s
  obtain ⟨b, hb, eb⟩ := kBookA_b h (h.carOf hx hs).2 (kN g (40 + 8 * kCarOf g x s + 2))
  obtain ⟨p, hp, ep⟩ := h.rate (k := 2) rfl
  have eb : kBook g (kCarOf g x s) = nI b := eb
  have ep : g 10 = nI p := ep
  have hm : b * p ≤ 99999 * 100 := Nat.mul_le_mul hb hp
  unfold kTot
  rw [er, eb, ep, lg_cmp_le, nI_l (by omega), nI_l (by omega), nI_l (by omega), show (100 : Int64) = lN 100 from rfl, lN_mul, lN_mul, lN_le (by omega) (by rw [Nat.mul_comm]; omega), pk_mul, show (100 : Int32) = nI 100 from rfl, pk_div (by omega) (by omega) (by omega), nI_leI (by omega) (by omega), Nat.mul_comm p b]
  omega
theorem kn_8m1 (x : Int32) : x + 8 - 1 = x + 7 := by rw [Int32.sub_eq_add_neg, Int32.add_assoc]; rfl
/-- what the Judge holds when it has appraised -/
noncomputable def kApp (g : Nat → Int32) (x s : Nat) (v : KMem) : Prop :=
  v.2.1 385 3 = kRep g x s ∧ v.2.1 385 4 = @ite _ (kTot g x s) (Classical.propDecidable _) 1 0 ∧ v.2.1 385 5 = kLoss g x s ∧ v.2.1 385 6 = kHire g x s ∧ v.2.1 385 7 = @ite _ (kTot g x s) (Classical.propDecidable _) 0 (kZn g x s 2)
def kS5 (a k : Nat) : Prop := a = 385 ∧ ¬ k < 3
theorem kS5_X {u v : KMem} (h : kEq kS5 u v) : kEq kSX u v := h.wk (fun a k q => Or.inl (by unfold kS5 at q; omega))
def kS6 (a _k : Nat) : Prop := a = 386
theorem kS6_X {u v : KMem} (h : kEq kS6 u v) : kEq kSX u v := h.wk (fun a k q => Or.inl (by unfold kS6 at q; omega))
