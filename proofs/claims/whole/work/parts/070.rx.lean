/-! WHAT THE CLASS'S CELLS MUST BE, for the numbers g -/
/-- a code of the model, as a step of the class -/
def kEnc (c : Int32) : Int32 :=
  if ¬ 10000 ≤ c then c else if ¬ 20000 ≤ c then 9999 - c
  else if c = 20000 then -1124 else if c = 20001 then -1038 else if c = 20002 then -1060 else if c = 20003 then -1061 else if c = 20004 then -1062
  else if c = 20005 then -1043 else if c = 20006 then -1045 else if c = 20007 then -1042 else if c = 20008 then -1047 else if c = 20009 then -1103
  else if c = 20010 then -1108 else if c = 20011 then -1033 else -1110
/-- fresh dents of both sides, as the class keeps them -/
def kFr2 (g : Nat → Int32) (x : Nat) : Int32 := g (328 + 7 * x + 4) &&& ((256 * g (40 + 8 * kCarOf g x 0 + 4) + g (40 + 8 * kCarOf g x 1 + 4)) ^^^ (-1))
def kXCnt (s : Nat) (g : Nat → Int32) (u : KMem) : Prop := u.2.1 s 1 = g 0 ∧ u.2.1 s 5 = g 1 ∧ u.2.1 s 7 = g 2 ∧ u.2.1 s 9 = g 3 ∧ u.2.1 s 11 = g 4 ∧ u.2.1 s 15 = g 5 ∧ u.2.1 s 17 = g 6 ∧ u.2.1 s 18 = g 7
def kXCar (s : Nat) (g : Nat → Int32) (u : KMem) (c : Nat) : Prop := (∀ f, f < 5 → u.2.1 (s + (12 + 2 * c)) f = g (40 + 8 * c + f)) ∧ ∀ m, m < 3 → u.2.1 (s + (12 + 2 * c + 1)) m = g (40 + 8 * c + (5 + m))
def kXShape (s : Nat) (g : Nat → Int32) (u : KMem) (i : Nat) : Prop := u.2.1 (s + 2) i = g (280 + 3 * i) ∧ u.2.1 (s + 3) i = g (280 + 3 * i) ||| g (280 + 3 * i + 1) ∧ u.2.1 (s + 4) i = g (280 + 3 * i + 2)
def kXCrash (s : Nat) (g : Nat → Int32) (u : KMem) (x : Nat) : Prop := (∀ q, q < 2 → u.2.1 (s + (72 + 3 * x + 1)) q = g (328 + 7 * x + q)) ∧ (∀ q, q < 2 → u.2.1 (s + (72 + 3 * x + 2)) q = g (328 + 7 * x + (5 + q))) ∧ u.2.1 (s + (72 + 3 * x)) 2 = g (328 + 7 * x + 2) ∧ u.2.1 (s + (72 + 3 * x)) 3 = g (328 + 7 * x + 3) ∧ u.2.1 (s + (72 + 3 * x)) 4 = kFr2 g x
def kXTreaty (s : Nat) (g : Nat → Int32) (u : KMem) (t : Nat) : Prop := u.2.1 (s + (132 + 2 * t)) 1 = g (468 + 66 * t + 2) ∧ u.2.1 (s + (132 + 2 * t)) 2 = g (468 + 66 * t) ∧ u.2.1 (s + (132 + 2 * t)) 3 = g (468 + 66 * t + 1) ∧ ∀ k, k < kN g (468 + 66 * t + 2) → u.2.1 (s + (132 + 2 * t + 1)) k = kEnc (g (468 + 66 * t + 3 + k))
def kXEntry (s : Nat) (g : Nat → Int32) (u : KMem) (e : Nat) : Prop := (∀ f, f < 5 → u.2.1 (s + (152 + e)) f = g (1128 + 5 * e + f)) ∧ u.2.1 (s + (152 + e)) 5 = nI (kFst g e)
/-- the store that begins at the cell s holds the numbers g -/
def kRS (s : Nat) (g : Nat → Int32) (u : KMem) : Prop :=
  kXCnt s g u ∧ (∀ k, k < 7 → u.2.1 (s + 9) k = g (8 + k)) ∧ (∀ z, z < 8 → ∀ t, t < 3 → u.2.1 (s + 8) (8 * t + z) = g (16 + 3 * z + t)) ∧
  (∀ c, c < kN g 0 → kXCar s g u c) ∧ (∀ i, i < kN g 1 → kXShape s g u i) ∧ (∀ x, x < kN g 2 → kXCrash s g u x) ∧ (∀ t, t < kN g 3 → kXTreaty s g u t) ∧ (∀ e, e < kN g 4 → kXEntry s g u e) ∧
  (∀ k, k < kN g 5 → u.2.1 (s + 10) k = g (1328 + k)) ∧ (∀ k, k < kN g 6 → u.2.1 (s + 11) k = g (1388 + k))
theorem kRS.of {s : Nat} {g : Nat → Int32} {u v : KMem} (h : kRS s g u) (he : ∀ a k, s ≤ a → a < s + 192 → v.2.1 a k = u.2.1 a k) (hg : kGI g) : kRS s g v := by
  have n0 := (hg.cnt (k := 0) rfl).2
  have n1 := (hg.cnt (k := 1) rfl).2
  have n2 := (hg.cnt (k := 2) rfl).2
  have n3 := (hg.cnt (k := 3) rfl).2
  have n4 := (hg.cnt (k := 4) rfl).2
  obtain ⟨⟨a1, a2, a3, a4, a5, a6, a7, a8⟩, b, c, d, e, f, t, n, p, q⟩ := h
  refine ⟨⟨by rw [he _ _ (by omega) (by omega)]; exact a1, by rw [he _ _ (by omega) (by omega)]; exact a2, by rw [he _ _ (by omega) (by omega)]; exact a3, by rw [he _ _ (by omega) (by omega)]; exact a4, by rw [he _ _ (by omega) (by omega)]; exact a5, by rw [he _ _ (by omega) (by omega)]; exact a6, by rw [he _ _ (by omega) (by omega)]; exact a7, by rw [he _ _ (by omega) (by omega)]; exact a8⟩, fun k hk => ?_, fun z hz r hr => ?_, fun i hi => ⟨fun j hj => ?_, fun j hj => ?_⟩, fun i hi => ⟨?_, ?_, ?_⟩, fun i hi => ⟨fun j hj => ?_, fun j hj => ?_, ?_, ?_, ?_⟩, fun i hi => ⟨?_, ?_, ?_, fun j hj => ?_⟩, fun i hi => ⟨fun j hj => ?_, ?_⟩, fun k hk => ?_, fun k hk => ?_⟩ <;> rw [he _ _ (by omega) (by omega)]
  · exact b k hk
  · exact c z hz r hr
  · exact (d i hi).1 j hj
  · exact (d i hi).2 j hj
  · exact (e i hi).1
  · exact (e i hi).2.1
  · exact (e i hi).2.2
  · exact (f i hi).1 j hj
  · exact (f i hi).2.1 j hj
  · exact (f i hi).2.2.1
  · exact (f i hi).2.2.2.1
  · exact (f i hi).2.2.2.2
  · exact (t i hi).1
  · exact (t i hi).2.1
  · exact (t i hi).2.2.1
  · exact (t i hi).2.2.2 j hj
  · exact (n i hi).1 j hj
  · exact (n i hi).2
  · exact p k hk
  · exact q k hk
theorem kRS.eqX {g : Nat → Int32} {u v : KMem} (h : kRS 1 g u) (hg : kGI g) (he : kEq kSX u v) : kRS 1 g v := h.of (fun a k h1 h2 => he.2.2.1 a k (by unfold kSX; omega)) hg
