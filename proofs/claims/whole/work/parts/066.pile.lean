/-! codes on a pile -/
def kDone (op x y : Int32) : Int32 :=
  if op = 20000 then (if ¬ x = 0 ∨ ¬ y = 0 then 1 else 0)
  else if op = 20001 then (if ¬ x = 0 ∧ ¬ y = 0 then 1 else 0)
  else if op = 20002 then (if ¬ y ≤ x then 1 else 0)
  else if op = 20003 then (if x = y then 1 else 0)
  else if op = 20004 then (if ¬ x ≤ y then 1 else 0)
  else if op = 20005 then x + y
  else if op = 20006 then x - y
  else if op = 20007 then x * y
  else if op = 20008 then (if y = 0 then 0 else x / y)
  else if op = 20009 then (if x < y then y else x)
  else (if y < x then y else x)
theorem kDone_d {op x y : Int32} (h : op.toInt < 20000 ∨ 20009 < op.toInt) : kDone op x y = if y < x then y else x := by
  have e : ∀ k : Int32, (20000 ≤ k.toInt ∧ k.toInt ≤ 20009) → ¬ op = k := fun k hk q => by rw [q] at h; omega
  unfold kDone
  rw [if_neg (e _ (by decide)), if_neg (e _ (by decide)), if_neg (e _ (by decide)), if_neg (e _ (by decide)), if_neg (e _ (by decide)), if_neg (e _ (by decide)), if_neg (e _ (by decide)), if_neg (e _ (by decide)), if_neg (e _ (by decide)), if_neg (e _ (by decide))]
/-- one code: what it does to the pile (its top first) -/
def kGs (a b c d : Int32) (is : Int32) (st : List Int32) : List Int32 :=
  if ¬ 20000 ≤ is then (if ¬ 10000 ≤ is then is else if is = 10000 then a else if is = 10001 then b else if is = 10002 then c else d) :: st
  else if is = 20011 then match st with
    | x :: t => (if x = 0 then 1 else 0) :: t
    | [] => []
  else if is = 20012 then match st with
    | x :: t => (-x) :: t
    | [] => []
  else match st with
    | y :: x :: t => kDone is x y :: t
    | _ => []
def kGv (f : Nat → Int32) (a b c d : Int32) : Nat → List Int32
  | 0 => []
  | k + 1 => kGs a b c d (f k) (kGv f a b c d k)
def kGiven (g : Nat → Int32) (t : Nat) (a b c d : Int32) : Int32 := (kGv (fun k => g (468 + 66 * t + 3 + k)) a b c d (kN g (468 + 66 * t + 2))).headD 0
theorem kDep_le {f : Nat → Int32} : ∀ {n d : Nat}, kDep f n = some d → ∀ i, i ≤ n → ∃ e, kDep f i = some e ∧ e ≤ i := by
  intro n
  induction n with
  | zero => intro d h i hi; exact ⟨0, by rw [show i = 0 by omega]; rfl, Nat.zero_le _⟩
  | succ n ih =>
    intro d h i hi
    have h0 := h
    rw [kDep] at h
    cases he : kDep f n with
    | none => rw [he] at h; cases h
    | some e =>
      by_cases hin : i = n + 1
      · subst hin
        obtain ⟨e2, h1, h2⟩ := ih he n (Nat.le_refl n)
        rw [he] at h1
        cases h1
        refine ⟨d, h0, ?_⟩
        rw [he] at h
        simp only at h
        split at h
        · cases h; omega
        · split at h
          · split at h
            · cases h; omega
            · cases h
          · split at h
            · split at h
              · cases h; omega
              · cases h
            · cases h
      · exact ih he i (by omega)
theorem kNe {x y : Int32} (h : x.toInt ≠ y.toInt) : ¬ x = y := fun q => h (by rw [q])
theorem kLe {x y : Int32} : x ≤ y ↔ x.toInt ≤ y.toInt := Int32.le_iff_toInt_le
theorem kLt {x y : Int32} : x < y ↔ x.toInt < y.toInt := Int32.lt_iff_toInt_lt
theorem kT20000 : (20000 : Int32).toInt = 20000 := by decide
theorem kT20011 : (20011 : Int32).toInt = 20011 := by decide
theorem kT20012 : (20012 : Int32).toInt = 20012 := by decide
theorem kT10000 : (10000 : Int32).toInt = 10000 := by decide
theorem kT10004 : (10004 : Int32).toInt = 10004 := by decide
theorem kT0 : (0 : Int32).toInt = 0 := by decide
theorem kGv_len {f : Nat → Int32} {a b c d : Int32} : ∀ {k e : Nat}, kDep f k = some e → (kGv f a b c d k).length = e := by
  intro k
  induction k with
  | zero => intro e h; cases h; rfl
  | succ k ih =>
    intro e h
    rw [kDep] at h
    cases he : kDep f k with
    | none => rw [he] at h; cases h
    | some e0 =>
      have hl := ih he
      rw [he] at h
      simp only at h
      rw [kGv]
      generalize kGv f a b c d k = L at hl
      unfold kGs
      split at h
      · rename_i hc
        cases h
        rw [if_pos (by rw [kLe, kT20000]; have := kLt.mp hc.2; rw [kT10004] at this; omega)]
        simp [hl]
      · split at h
        · rename_i hc
          split at h
          · rename_i h1
            cases h
            have h2 : ¬ ¬ 20000 ≤ f k := by
              rw [kLe, kT20000]
              rcases hc with q | q <;> rw [q]
              · rw [kT20011]; omega
              · rw [kT20012]; omega
            rw [if_neg h2]
            cases L with
            | nil => simp at hl; omega
            | cons y t =>
              by_cases q : f k = 20011
              · rw [if_pos q]; simpa using hl
              · rw [if_neg q, if_pos (hc.resolve_left q)]; simpa using hl
          · cases h
        · rename_i hc
          split at h
          · rename_i hr
            split at h
            · rename_i h1
              cases h
              rw [if_neg (fun q => q hr.1), if_neg (fun q => hc (Or.inl q)), if_neg (fun q => hc (Or.inr q))]
              match L, hl with
              | [], hl => simp at hl; omega
              | [x], hl => simp at hl; omega
              | y :: x :: t, hl => simp at hl ⊢; omega
            · cases h
          · cases h
/-- what is known at the code i -/
theorem kGv_at {f : Nat → Int32} {a b c d : Int32} {n i : Nat} (h : kDep f n = some 1) (hi : i < n) : (kGv f a b c d i).length ≤ i ∧ ((f i = 20011 ∨ f i = 20012) → ∃ y t, kGv f a b c d i = y :: t) ∧ (20000 ≤ f i → ¬ f i = 20011 → ¬ f i = 20012 → ∃ y x t, kGv f a b c d i = y :: x :: t) := by
  obtain ⟨e, h1, h2⟩ := kDep_le h i (by omega)
  obtain ⟨e', h3, h4⟩ := kDep_le h (i + 1) hi
  have hl := kGv_len (a := a) (b := b) (c := c) (d := d) h1
  rw [kDep, h1] at h3
  simp only at h3
  refine ⟨by omega, fun hc => ?_, fun q1 q2 q3 => ?_⟩
  · rw [if_neg (fun q => by
      have := kLt.mp q.2
      rw [kT10004] at this
      rcases hc with q | q <;> rw [q] at this
      · rw [kT20011] at this; omega
      · rw [kT20012] at this; omega), if_pos hc] at h3
    split at h3
    · cases hL : kGv f a b c d i with
      | nil => rw [hL] at hl; simp at hl; omega
      | cons y t => exact ⟨y, t, rfl⟩
    · cases h3
  · rw [if_neg (fun q => by
      have := kLt.mp q.2
      rw [kT10004] at this
      have q1 := kLe.mp q1
      rw [kT20000] at q1
      omega), if_neg (fun q => q.elim q2 q3)] at h3
    split at h3
    · split at h3
      · match hL : kGv f a b c d i with
        | [] => rw [hL] at hl; simp at hl; omega
        | [x] => rw [hL] at hl; simp at hl; omega
        | y :: x :: t => exact ⟨y, x, t, rfl⟩
      · cases h3
    · cases h3
/-- the pile L lies in the row p -/
def kPi (p : Nat) (v : KMem) : List Int32 → Prop
  | [] => True
  | x :: t => v.2.1 p t.length = x ∧ kPi p v t
theorem kPi.si {p : Nat} {v : KMem} {k : Nat} {x : Int32} : ∀ {L : List Int32}, kPi p v L → L.length ≤ k → kPi p (kv_si v p k x) L
  | [], _, _ => trivial
  | y :: t, h, hk => ⟨by rw [kv_si_k (by simp at hk; omega)]; exact h.1, kPi.si h.2 (by simp at hk; omega)⟩
theorem kPi.push {p : Nat} {v : KMem} {x : Int32} {L : List Int32} (h : kPi p v L) : kPi p (kv_si v p L.length x) (x :: L) := ⟨kv_si_s _ _ _ _, h.si (Nat.le_refl _)⟩
