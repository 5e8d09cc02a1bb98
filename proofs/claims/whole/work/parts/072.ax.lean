/-! WHAT IS READ OUT OF THE CLASS'S STORE -/
section KRS
variable {g : Nat → Int32} {u : KMem}
theorem kRS.n0 (h : kRS 1 g u) : u.2.1 1 1 = g 0 := h.1.1
theorem kRS.n1 (h : kRS 1 g u) : u.2.1 1 5 = g 1 := h.1.2.1
theorem kRS.n2 (h : kRS 1 g u) : u.2.1 1 7 = g 2 := h.1.2.2.1
theorem kRS.n3 (h : kRS 1 g u) : u.2.1 1 9 = g 3 := h.1.2.2.2.1
theorem kRS.n4 (h : kRS 1 g u) : u.2.1 1 11 = g 4 := h.1.2.2.2.2.1
theorem kRS.n5 (h : kRS 1 g u) : u.2.1 1 15 = g 5 := h.1.2.2.2.2.2.1
theorem kRS.n6 (h : kRS 1 g u) : u.2.1 1 17 = g 6 := h.1.2.2.2.2.2.2.1
theorem kRS.n7 (h : kRS 1 g u) : u.2.1 1 18 = g 7 := h.1.2.2.2.2.2.2.2
theorem kRS.rate (h : kRS 1 g u) (k : Nat) (hk : k < 7) : u.2.1 10 k = g (8 + k) := h.2.1 k hk
theorem kRS.zone (h : kRS 1 g u) {z : Nat} (hz : z < 8) (t : Nat) (ht : t < 3) : u.2.1 9 (8 * t + z) = g (16 + 3 * z + t) := h.2.2.1 z hz t ht
theorem kRS.car (h : kRS 1 g u) {c : Nat} (hc : c < kN g 0) (f : Nat) (hf : f < 5) : u.2.1 (1 + (12 + 2 * c)) f = g (40 + 8 * c + f) := (h.2.2.2.1 c hc).1 f hf
theorem kRS.mark (h : kRS 1 g u) {c : Nat} (hc : c < kN g 0) {m : Nat} (hm : m < 3) : u.2.1 (1 + (12 + 2 * c + 1)) m = g (40 + 8 * c + (5 + m)) := (h.2.2.2.1 c hc).2 m hm
theorem kRS.need (h : kRS 1 g u) {i : Nat} (hi : i < kN g 1) : u.2.1 3 i = g (280 + 3 * i) := (h.2.2.2.2.1 i hi).1
theorem kRS.allow (h : kRS 1 g u) {i : Nat} (hi : i < kN g 1) : u.2.1 4 i = g (280 + 3 * i) ||| g (280 + 3 * i + 1) := (h.2.2.2.2.1 i hi).2.1
theorem kRS.fault (h : kRS 1 g u) {i : Nat} (hi : i < kN g 1) : u.2.1 5 i = g (280 + 3 * i + 2) := (h.2.2.2.2.1 i hi).2.2
theorem kRS.cc (h : kRS 1 g u) {x : Nat} (hx : x < kN g 2) (q : Nat) (hq : q < 2) : u.2.1 (1 + (72 + 3 * x + 1)) q = g (328 + 7 * x + q) := (h.2.2.2.2.2.1 x hx).1 q hq
theorem kRS.tell (h : kRS 1 g u) {x : Nat} (hx : x < kN g 2) (q : Nat) (hq : q < 2) : u.2.1 (1 + (72 + 3 * x + 2)) q = g (328 + 7 * x + (5 + q)) := (h.2.2.2.2.2.1 x hx).2.1 q hq
theorem kRS.day (h : kRS 1 g u) {x : Nat} (hx : x < kN g 2) : u.2.1 (1 + (72 + 3 * x)) 2 = g (328 + 7 * x + 2) := (h.2.2.2.2.2.1 x hx).2.2.1
theorem kRS.speed (h : kRS 1 g u) {x : Nat} (hx : x < kN g 2) : u.2.1 (1 + (72 + 3 * x)) 3 = g (328 + 7 * x + 3) := (h.2.2.2.2.2.1 x hx).2.2.2.1
theorem kRS.fresh (h : kRS 1 g u) {x : Nat} (hx : x < kN g 2) : u.2.1 (1 + (72 + 3 * x)) 4 = kFr2 g x := (h.2.2.2.2.2.1 x hx).2.2.2.2
theorem kRS.tlen (h : kRS 1 g u) {t : Nat} (ht : t < kN g 3) : u.2.1 (1 + (132 + 2 * t)) 1 = g (468 + 66 * t + 2) := (h.2.2.2.2.2.2.1 t ht).1
theorem kRS.tuse (h : kRS 1 g u) {t : Nat} (ht : t < kN g 3) : u.2.1 (1 + (132 + 2 * t)) 2 = g (468 + 66 * t) := (h.2.2.2.2.2.2.1 t ht).2.1
theorem kRS.tday (h : kRS 1 g u) {t : Nat} (ht : t < kN g 3) : u.2.1 (1 + (132 + 2 * t)) 3 = g (468 + 66 * t + 1) := (h.2.2.2.2.2.2.1 t ht).2.2.1
theorem kRS.step (h : kRS 1 g u) {t k : Nat} (ht : t < kN g 3) (hk : k < kN g (468 + 66 * t + 2)) : u.2.1 (1 + (132 + 2 * t + 1)) k = kEnc (g (468 + 66 * t + 3 + k)) := (h.2.2.2.2.2.2.1 t ht).2.2.2 k hk
theorem kRS.ent (h : kRS 1 g u) {e : Nat} (he : e < kN g 4) (f : Nat) (hf : f < 5) : u.2.1 (1 + (152 + e)) f = g (1128 + 5 * e + f) := (h.2.2.2.2.2.2.2.1 e he).1 f hf
theorem kRS.efst (h : kRS 1 g u) {e : Nat} (he : e < kN g 4) : u.2.1 (1 + (152 + e)) 5 = nI (kFst g e) := (h.2.2.2.2.2.2.2.1 e he).2
end KRS
/-! the sets of shapes -/
theorem kn_pow : ∀ s, s < 31 → (1 : Int32) <<< (nI s &&& 31) = nI (2 ^ s) := by decide +kernel
theorem kFitA_lt (g : Nat → Int32) (fr : Int32) : ∀ n, n < 31 → ∃ m, m < 2 ^ n ∧ kFitA g fr n = nI m
  | 0, _ => ⟨0, by decide, rfl⟩
  | n + 1, h => by
    obtain ⟨m, hm, e⟩ := kFitA_lt g fr n (by omega)
    have hp : 2 ^ n < 2 ^ (n + 1) := Nat.pow_lt_pow_right (by decide) (by omega)
    unfold kFitA
    rw [e]
    split
    · rw [kn_pow n (by omega), kn_or]
      exact ⟨_, Nat.or_lt_two_pow (Nat.lt_trans hm hp) hp, rfl⟩
    · exact ⟨m, Nat.lt_trans hm hp, show nI m ||| nI 0 = _ by rw [kn_or, Nat.or_zero]⟩
theorem kGI.fit {g : Nat → Int32} (h : kGI g) (x : Nat) : ∃ m, m < 2 ^ kN g 1 ∧ kFit g x = nI m := kFitA_lt g _ _ (by have := (h.cnt (k := 1) rfl).2; omega)
theorem kGI.all {g : Nat → Int32} (h : kGI g) : kAll g = nI (2 ^ kN g 1 - 1) := by
  have h1 := h.cnt (k := 1) rfl
  unfold kAll
  rw [h1.1, kn_pow _ (by omega)]
  exact kn_sub rfl (show (1 : Int32) = nI 1 from rfl) Nat.one_le_two_pow
theorem kFit_all {g : Nat → Int32} (h : kGI g) (x : Nat) : kFit g x &&& kAll g = kFit g x := by
  obtain ⟨m, hm, e⟩ := h.fit x
  rw [e, h.all, kn_and, Nat.and_two_pow_sub_one_eq_mod, Nat.mod_eq_of_lt hm]
theorem kTold_0 {g : Nat → Int32} (h : kGI g) {x s : Nat} (ht : g (328 + 7 * x + (5 + s)) = 0) : kFit g x = kFit g x &&& kTold g x s := by
  unfold kTold
  rw [if_pos ht, kFit_all h]
theorem kTold_1 {g : Nat → Int32} {x s : Nat} (ht : ¬ g (328 + 7 * x + (5 + s)) = 0) : kFit g x &&& g (328 + 7 * x + (5 + s)) = kFit g x &&& kTold g x s := by
  unfold kTold
  rw [if_neg ht]
theorem kb_l1 (f a b : Int32) : (f &&& a) &&& (f &&& b) = f &&& a &&& b := kb_ext fun i _ => by
  simp only [kb_and]
  cases kb f i <;> cases kb a i <;> cases kb b i <;> rfl
theorem kb_l2 (f a b : Int32) : (f &&& a) ||| (f &&& b) = f &&& (a ||| b) := kb_ext fun i _ => by
  simp only [kb_and, kb_or]
  cases kb f i <;> cases kb a i <;> cases kb b i <;> rfl
theorem kLeft_1 {g : Nat → Int32} {x : Nat} {a b : Int32} (pa : a = kFit g x &&& kTold g x 0) (pb : b = kFit g x &&& kTold g x 1) (h : ¬ a &&& b = 0) : a &&& b = kLeft g x := by
  subst pa pb
  rw [kb_l1] at h ⊢
  unfold kLeft
  rw [if_pos h]
theorem kLeft_2 {g : Nat → Int32} {x : Nat} {a b : Int32} (pa : a = kFit g x &&& kTold g x 0) (pb : b = kFit g x &&& kTold g x 1) (h : a &&& b = 0) (h2 : ¬ a ||| b = 0) : a ||| b = kLeft g x := by
  subst pa pb
  rw [kb_l1] at h
  rw [kb_l2] at h2 ⊢
  unfold kLeft
  rw [if_neg (fun q => q h), if_pos h2]
theorem kLeft_3 {g : Nat → Int32} {x : Nat} {a b : Int32} (pa : a = kFit g x &&& kTold g x 0) (pb : b = kFit g x &&& kTold g x 1) (h : a &&& b = 0) (h2 : a ||| b = 0) : kFit g x = kLeft g x := by
  subst pa pb
  rw [kb_l1] at h
  rw [kb_l2] at h2
  unfold kLeft
  rw [if_neg (fun q => q h), if_neg (fun q => q h2)]
theorem kn_andl {m : Nat} {y : Int32} : ∃ k, k ≤ m ∧ nI m &&& y = nI k := by
  refine ⟨m &&& y.toBitVec.toNat, Nat.and_le_left, ?_⟩
  rw [← kn_and]
  congr 1
  apply Int32.toBitVec_inj.mp
  show y.toBitVec = BitVec.ofNat 32 y.toBitVec.toNat
  simp
theorem kGI.left {g : Nat → Int32} (h : kGI g) (x : Nat) : ∃ m, m < 2 ^ kN g 1 ∧ kLeft g x = nI m := by
  obtain ⟨m, hm, e⟩ := h.fit x
  unfold kLeft
  rw [e]
  split
  · obtain ⟨k, hk, e2⟩ := kn_andl (m := m) (y := kTold g x 0)
    obtain ⟨j, hj, e3⟩ := kn_andl (m := k) (y := kTold g x 1)
    exact ⟨j, by omega, by rw [e2, e3]⟩
  · split
    · obtain ⟨k, hk, e2⟩ := kn_andl (m := m) (y := kTold g x 0 ||| kTold g x 1)
      exact ⟨k, by omega, e2⟩
    · exact ⟨m, hm, rfl⟩
/-- the class's least and most -/
def kLsA (g : Nat → Int32) (left : Int32) : Nat → Int32
  | 0 => 100
  | s + 1 => if (left >>> (nI s &&& 31)) &&& 1 = 0 then kLsA g left s else if g (280 + 3 * s + 2) < kLsA g left s then g (280 + 3 * s + 2) else kLsA g left s
def kMsA (g : Nat → Int32) (left : Int32) : Nat → Int32
  | 0 => 0
  | s + 1 => if (left >>> (nI s &&& 31)) &&& 1 = 0 then kMsA g left s else if kMsA g left s < g (280 + 3 * s + 2) then g (280 + 3 * s + 2) else kMsA g left s
theorem kEndA_0 (g : Nat → Int32) (left : Int32) (n : Nat) : kEndA g left 0 (n + 1) = if (left >>> (nI n &&& 31)) &&& 1 = 1 ∧ ¬ kEndA g left 0 n ≤ g (280 + 3 * n + 2) then g (280 + 3 * n + 2) else kEndA g left 0 n := by
  conv => lhs; unfold kEndA
  by_cases q : (left >>> (nI n &&& 31)) &&& 1 = 1 ∧ ¬ kEndA g left 0 n ≤ g (280 + 3 * n + 2)
  · rw [if_pos q, if_pos ⟨q.1, by rw [if_pos (rfl : (0 : Nat) = 0)]; exact q.2⟩]
  · rw [if_neg q, if_neg (fun z => q ⟨z.1, by have := z.2; rw [if_pos (rfl : (0 : Nat) = 0)] at this; exact this⟩)]
theorem kEndA_1 (g : Nat → Int32) (left : Int32) (n : Nat) : kEndA g left 1 (n + 1) = if (left >>> (nI n &&& 31)) &&& 1 = 1 ∧ ¬ g (280 + 3 * n + 2) ≤ kEndA g left 1 n then g (280 + 3 * n + 2) else kEndA g left 1 n := by
  conv => lhs; unfold kEndA
  by_cases q : (left >>> (nI n &&& 31)) &&& 1 = 1 ∧ ¬ g (280 + 3 * n + 2) ≤ kEndA g left 1 n
  · rw [if_pos q, if_pos ⟨q.1, by rw [if_neg (by decide : ¬ (1 : Nat) = 0)]; exact q.2⟩]
  · rw [if_neg q, if_neg (fun z => q ⟨z.1, by have := z.2; rw [if_neg (by decide : ¬ (1 : Nat) = 0)] at this; exact this⟩)]
theorem kLsA_e {g : Nat → Int32} (h : kGI g) (left : Int32) : ∀ n, n ≤ kN g 1 → (kEndA g left 0 n = 101 ∧ kLsA g left n = 100 ∧ ∀ j, j < n → (left >>> (nI j &&& 31)) &&& 1 = 0) ∨ (kLsA g left n = kEndA g left 0 n ∧ kUp (kEndA g left 0 n) 100)
  | 0, _ => Or.inl ⟨rfl, rfl, fun j hj => absurd hj (Nat.not_lt_zero j)⟩
  | n + 1, hn => by
    have h16 := (h.cnt (k := 1) rfl).2
    obtain ⟨f, hf, ef⟩ := (h.2.2.2.2.1 n (by omega)).2.2
    have hb := kb_an left (n := n) (by omega)
    unfold kLsA
    rw [kEndA_0, ef]
    by_cases hc : (left >>> (nI n &&& 31)) &&& 1 = 0
    · rw [if_neg (fun q => hb.mp q.1 hc), if_pos hc]
      rcases kLsA_e h left n (by omega) with ⟨e1, e2, e3⟩ | e
      · refine Or.inl ⟨e1, e2, fun j hj => ?_⟩
        by_cases hj2 : j = n
        · rw [hj2]; exact hc
        · exact e3 j (by omega)
      · exact Or.inr e
    · rw [if_neg hc]
      rcases kLsA_e h left n (by omega) with ⟨e1, e2, e3⟩ | ⟨e1, ⟨k, hk, e2⟩⟩
      · refine Or.inr ?_
        rw [e1, e2, if_pos (show (left >>> (nI n &&& 31)) &&& 1 = 1 ∧ ¬ (101 : Int32) ≤ nI f from ⟨hb.mpr hc, nI_ge (a := f) (b := 101) (by omega) (by omega)⟩)]
        refine ⟨?_, f, hf, rfl⟩
        split
        · rfl
        · rename_i q
          have : ¬ f < 100 := fun z => q (nI_lt (b := 100) z (by omega))
          have : f = 100 := by omega
          rw [this]; rfl
      · refine Or.inr ?_
        rw [e1, e2]
        by_cases hl : f < k
        · rw [if_pos (nI_lt hl (by omega)), if_pos ⟨hb.mpr hc, nI_ge hl (by omega)⟩]
          exact ⟨rfl, f, hf, rfl⟩
        · rw [if_neg (nI_nlt (by omega) (by omega)), if_neg (fun q => q.2 (nI_le (by omega) (by omega)))]
          exact ⟨rfl, k, hk, rfl⟩
theorem kMsA_e {g : Nat → Int32} (h : kGI g) (left : Int32) : ∀ n, n ≤ kN g 1 → (kEndA g left 1 n = -1 ∧ kMsA g left n = 0 ∧ ∀ j, j < n → (left >>> (nI j &&& 31)) &&& 1 = 0) ∨ (kMsA g left n = kEndA g left 1 n ∧ kUp (kEndA g left 1 n) 100)
  | 0, _ => Or.inl ⟨rfl, rfl, fun j hj => absurd hj (Nat.not_lt_zero j)⟩
  | n + 1, hn => by
    have h16 := (h.cnt (k := 1) rfl).2
    obtain ⟨f, hf, ef⟩ := (h.2.2.2.2.1 n (by omega)).2.2
    have hb := kb_an left (n := n) (by omega)
    unfold kMsA
    rw [kEndA_1, ef]
    by_cases hc : (left >>> (nI n &&& 31)) &&& 1 = 0
    · rw [if_neg (fun q => hb.mp q.1 hc), if_pos hc]
      rcases kMsA_e h left n (by omega) with ⟨e1, e2, e3⟩ | e
      · refine Or.inl ⟨e1, e2, fun j hj => ?_⟩
        by_cases hj2 : j = n
        · rw [hj2]; exact hc
        · exact e3 j (by omega)
      · exact Or.inr e
    · rw [if_neg hc]
      have hm : ¬ nI f ≤ -1 := by
        rw [kLe, nI_toInt (by omega), show (-1 : Int32).toInt = -1 from by decide]
        omega
      rcases kMsA_e h left n (by omega) with ⟨e1, e2, e3⟩ | ⟨e1, ⟨k, hk, e2⟩⟩
      · refine Or.inr ?_
        rw [e1, e2, if_pos (show (left >>> (nI n &&& 31)) &&& 1 = 1 ∧ ¬ nI f ≤ -1 from ⟨hb.mpr hc, hm⟩)]
        refine ⟨?_, f, hf, rfl⟩
        split
        · rfl
        · rename_i q
          have : ¬ 0 < f := fun z => q (nI_lt (a := 0) z (by omega))
          have : f = 0 := by omega
          rw [this]; rfl
      · refine Or.inr ?_
        rw [e1, e2]
        by_cases hl : k < f
        · rw [if_pos (nI_lt hl (by omega)), if_pos ⟨hb.mpr hc, nI_ge hl (by omega)⟩]
          exact ⟨rfl, f, hf, rfl⟩
        · rw [if_neg (nI_nlt (by omega) (by omega)), if_neg (fun q => q.2 (nI_le (by omega) (by omega)))]
          exact ⟨rfl, k, hk, rfl⟩
theorem kn_bits0 {m n : Nat} (hm : m < 2 ^ n) (hn : n < 31) (h : ∀ j, j < n → (nI m >>> (nI j &&& 31)) &&& 1 = 0) : m = 0 := by
  refine Nat.eq_of_testBit_eq fun i => ?_
  rw [Nat.zero_testBit]
  rcases Nat.lt_or_ge i n with hi | hi
  · have h1 := h i hi
    rw [kb_at _ (by omega), kb_n _ (by omega)] at h1
    cases hb : m.testBit i
    · rfl
    · rw [hb] at h1; exact absurd h1 (by decide)
  · exact Nat.testBit_lt_two_pow (Nat.lt_of_lt_of_le hm (Nat.pow_le_pow_right (by decide) hi))
theorem kLs_end {g : Nat → Int32} (h : kGI g) {left : Int32} (hl : ∃ m, m < 2 ^ kN g 1 ∧ left = nI m) (h0 : ¬ left = 0) : kLsA g left (kN g 1) = kEnd g left 0 := by
  unfold kEnd
  rw [if_neg h0]
  rcases kLsA_e h left _ (Nat.le_refl _) with ⟨-, -, e⟩ | e
  · obtain ⟨m, hm, rfl⟩ := hl
    have h16 := (h.cnt (k := 1) rfl).2
    exact absurd (by rw [kn_bits0 hm (by omega) e]; rfl) h0
  · exact e.1
theorem kMs_end {g : Nat → Int32} (h : kGI g) {left : Int32} (hl : ∃ m, m < 2 ^ kN g 1 ∧ left = nI m) (h0 : ¬ left = 0) : kMsA g left (kN g 1) = kEnd g left 1 := by
  unfold kEnd
  rw [if_neg h0]
  rcases kMsA_e h left _ (Nat.le_refl _) with ⟨-, -, e⟩ | e
  · obtain ⟨m, hm, rfl⟩ := hl
    have h16 := (h.cnt (k := 1) rfl).2
    exact absurd (by rw [kn_bits0 hm (by omega) e]; rfl) h0
  · exact e.1
theorem kn_m1 (t : Nat) : nI t + Int32.ofInt (-1) = nI t - 1 := by rw [Int32.sub_eq_add_neg]; rfl
