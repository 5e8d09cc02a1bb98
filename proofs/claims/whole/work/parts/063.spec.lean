/-! WHAT THE NUMBERS g (the model's row 'now') MUST BE, AND WHAT FOLLOWS FROM THEM -/
def kN (g : Nat → Int32) (k : Nat) : Nat := (g k).toNatClampNeg
def kUp (x : Int32) (n : Nat) : Prop := ∃ j, j ≤ n ∧ x = nI j
def kCap : List Nat := [30, 16, 20, 10, 40, 60, 33]
def kTop : List Nat := [99, 50, 100, 100, 99, 9999, 50]
def kZt : List Nat := [9999, 99, 60]
/-- how deep the pile is behind k codes; none: it has run empty, or a code is none -/
def kDep (f : Nat → Int32) : Nat → Option Nat
  | 0 => some 0
  | k + 1 => match kDep f k with
    | none => none
    | some d =>
      if 0 ≤ f k ∧ f k < 10004 then some (d + 1)
      else if f k = 20011 ∨ f k = 20012 then (if 1 ≤ d then some d else none)
      else if 20000 ≤ f k ∧ f k < 20011 then (if 2 ≤ d then some (d - 1) else none)
      else none
def kOkCar (g : Nat → Int32) (c : Nat) : Prop := kUp (g (40 + 8 * c + 0)) 10 ∧ kUp (g (40 + 8 * c + 1)) 99999 ∧ kUp (g (40 + 8 * c + 2)) 20 ∧ kUp (g (40 + 8 * c + 3)) 999 ∧ kUp (g (40 + 8 * c + 4)) 255 ∧ ∀ m, m < 3 → g (40 + 8 * c + (5 + m)) = -1 ∨ kUp (g (40 + 8 * c + (5 + m))) 99
def kOkShape (g : Nat → Int32) (s : Nat) : Prop := kUp (g (280 + 3 * s)) 65535 ∧ kUp (g (280 + 3 * s + 1)) 65535 ∧ kUp (g (280 + 3 * s + 2)) 100
def kOkCrash (g : Nat → Int32) (x : Nat) : Prop := (∀ s, s < 2 → ∃ c, c < kN g 0 ∧ g (328 + 7 * x + s) = nI c) ∧ kUp (g (328 + 7 * x + 2)) 999 ∧ kUp (g (328 + 7 * x + 3)) 99 ∧ kUp (g (328 + 7 * x + 4)) 65535 ∧ ∀ s, s < 2 → ∃ n, n < 2 ^ kN g 1 ∧ g (328 + 7 * x + (5 + s)) = nI n
def kOkTreaty (g : Nat → Int32) (t : Nat) : Prop := kUp (g (468 + 66 * t)) 2 ∧ kUp (g (468 + 66 * t + 1)) 999 ∧ kUp (g (468 + 66 * t + 2)) 60 ∧ kDep (fun k => g (468 + 66 * t + 3 + k)) (kN g (468 + 66 * t + 2)) = some 1
def kOkEntry (g : Nat → Int32) (e : Nat) : Prop := (∃ x, x < kN g 2 ∧ g (1128 + 5 * e + 0) = nI x) ∧ kUp (g (1128 + 5 * e + 1)) 1 ∧ kUp (g (1128 + 5 * e + 2)) 999999 ∧ kUp (g (1128 + 5 * e + 3)) 33 ∧ kUp (g (1128 + 5 * e + 4)) 999
def kGI (g : Nat → Int32) : Prop :=
  (∀ k n, kCap[k]? = some n → kUp (g k) n) ∧ (∀ k n, kTop[k]? = some n → kUp (g (8 + k)) n) ∧ (∀ z, z < 8 → ∀ t n, kZt[t]? = some n → kUp (g (16 + 3 * z + t)) n) ∧
  (∀ c, c < kN g 0 → kOkCar g c) ∧ (∀ s, s < kN g 1 → kOkShape g s) ∧ (∀ x, x < kN g 2 → kOkCrash g x) ∧ (∀ t, t < kN g 3 → kOkTreaty g t) ∧ (∀ e, e < kN g 4 → kOkEntry g e) ∧ (∀ k, k < kN g 5 → kUp (g (1328 + k)) 255)
theorem kUp.n {x : Int32} {n : Nat} (h : kUp x n) (hn : n < 2147483648) : x = nI x.toNatClampNeg ∧ x.toNatClampNeg ≤ n := by
  obtain ⟨j, hj, rfl⟩ := h
  rw [nI_clamp (by omega)]
  exact ⟨rfl, hj⟩
theorem kGI.cnt {g : Nat → Int32} (h : kGI g) {k n : Nat} (hk : kCap[k]? = some n) : g k = nI (kN g k) ∧ kN g k ≤ n := by
  refine (h.1 k n hk).n ?_
  have : ∀ j : Nat, j < 7 → kCap.getD j 0 < 2147483648 := by decide
  have hl := (List.getElem?_eq_some_iff.mp hk).1
  have := this k hl
  rw [List.getD_eq_getElem?_getD, hk] at this
  exact this
theorem kGI.carOf {g : Nat → Int32} (h : kGI g) {x s : Nat} (hx : x < kN g 2) (hs : s < 2) : g (328 + 7 * x + s) = nI (kCarOf g x s) ∧ kCarOf g x s < kN g 0 := by
  obtain ⟨c, hc, e⟩ := (h.2.2.2.2.2.1 x hx).1 s hs
  have hc0 := (h.cnt (k := 0) rfl).2
  have : kCarOf g x s = c := by unfold kCarOf; rw [e, nI_clamp (by omega)]
  rw [this]
  exact ⟨e, hc⟩
def kAll (g : Nat → Int32) : Int32 := (1 <<< (g 1 &&& 31)) - 1
def kFitA (g : Nat → Int32) (fr : Int32) : Nat → Int32
  | 0 => 0
  | s + 1 => kFitA g fr s ||| (if g (280 + 3 * s) &&& (fr ^^^ (-1)) = 0 ∧ fr &&& ((g (280 + 3 * s) ||| g (280 + 3 * s + 1)) ^^^ (-1)) = 0 then 1 <<< (nI s &&& 31) else 0)
def kFit (g : Nat → Int32) (x : Nat) : Int32 := kFitA g (256 * kFresh g x 0 + kFresh g x 1) (kN g 1)
def kTold (g : Nat → Int32) (x s : Nat) : Int32 := if g (328 + 7 * x + (5 + s)) = 0 then kAll g else g (328 + 7 * x + (5 + s))
def kLeft (g : Nat → Int32) (x : Nat) : Int32 :=
  if ¬ kFit g x &&& kTold g x 0 &&& kTold g x 1 = 0 then kFit g x &&& kTold g x 0 &&& kTold g x 1
  else if ¬ kFit g x &&& (kTold g x 0 ||| kTold g x 1) = 0 then kFit g x &&& (kTold g x 0 ||| kTold g x 1) else kFit g x
/-- the least (m 0) or the most (m 1) fault -/
def kEndA (g : Nat → Int32) (left : Int32) (m : Nat) : Nat → Int32
  | 0 => if m = 0 then 101 else -1
  | s + 1 => if (left >>> (nI s &&& 31)) &&& 1 = 1 ∧ (if m = 0 then ¬ kEndA g left m s ≤ g (280 + 3 * s + 2) else ¬ g (280 + 3 * s + 2) ≤ kEndA g left m s) then g (280 + 3 * s + 2) else kEndA g left m s
def kEnd (g : Nat → Int32) (left : Int32) (m : Nat) : Int32 := if left = 0 then (if m = 0 then 0 else 100) else kEndA g left m (kN g 1)
def kBookA (g : Nat → Int32) (c : Nat) : Nat → Int32
  | 0 => g (40 + 8 * c + 1)
  | k + 1 => kBookA g c k * (100 - g 9) / 100
def kBook (g : Nat → Int32) (c : Nat) : Int32 := kBookA g c (kN g (40 + 8 * c + 2))
def kZnA (g : Nat → Int32) (fr : Int32) (t : Nat) : Nat → Int32
  | 0 => 0
  | z + 1 => if t = 2 then (if kZnA g fr t z < (if (fr >>> (nI z &&& 31)) &&& 1 = 1 then g (16 + 3 * z + t) else 0) then (if (fr >>> (nI z &&& 31)) &&& 1 = 1 then g (16 + 3 * z + t) else 0) else kZnA g fr t z) else kZnA g fr t z + (if (fr >>> (nI z &&& 31)) &&& 1 = 1 then g (16 + 3 * z + t) else 0)
def kZn (g : Nat → Int32) (x s t : Nat) : Int32 := kZnA g (kFresh g x s) t 8
def kRep (g : Nat → Int32) (x s : Nat) : Int32 := kZn g x s 0 + kZn g x s 1 * g 8
def kTot (g : Nat → Int32) (x s : Nat) : Prop := ¬ lg_cmp (100 * (kRep g x s).toInt64) ((g 10).toInt64 * (kBook g (kCarOf g x s)).toInt64) ≤ 0
def kInF (g : Nat → Int32) (use day : Int32) : Nat → Int32
  | 0 => -1
  | t + 1 => if g (468 + 66 * t) = use ∧ ¬ day < g (468 + 66 * t + 1) then nI t else kInF g use day t
