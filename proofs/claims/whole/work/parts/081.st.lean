/-! THE STATE a THAT CLASS AND MODEL SHARE: a 0 now, a 1 kept, a 2 0 images, a 3 found, a 4 trace, a 5 0 traced, a 6 widths, a 7 sizes, a 8 numbers -/
abbrev KA := Nat → Nat → Int32
def kRM (a : KA) (u : KMem) : Prop := u.2.1 414 = a 0 ∧ u.2.1 415 = a 1 ∧ u.2.1 413 2 = a 2 0 ∧ u.2.1 416 = a 3 ∧ u.2.1 428 = a 4 ∧ u.2.1 413 24 = a 5 0 ∧ u.2.1 429 = a 6 ∧ u.2.1 430 = a 7 ∧ u.2.1 431 = a 8 ∧ (∀ k, k < 7 → u.2.1 417 k = nI (kTop.getD k 0)) ∧ u.2.1 423 0 = 0
def kXSh (a : KA) (u : KMem) (i : Nat) : Prop := u.2.1 (401 + 3 * i) 1 = a 6 i ∧ u.2.1 (401 + 3 * i) 2 = a 7 i ∧ ∀ k, k < 24 → u.2.1 (401 + 3 * i + 1) k = a 8 (24 * i + k)
def kRX (a : KA) (u : KMem) : Prop :=
  kRS 1 (a 0) u ∧ ((¬ a 2 0 = 0 → kRS 193 (a 1) u) ∧ u.2.1 393 0 = 0) ∧ u.2.1 0 9 = a 2 0 ∧ (∀ k, k < 7 → u.2.1 400 k = a 3 k) ∧ u.2.1 397 1 = a 5 0 ∧ (∀ k, k < kN (a 5) 0 → u.2.1 398 k = a 4 k) ∧ ∀ i, i < 4 → kXSh a u i
def kOk (a : KA) : Prop :=
  kGI (a 0) ∧ (¬ a 2 0 = 0 → kGI (a 1)) ∧ kUp (a 5 0) 30 ∧ ∀ i, i < 4 → kUp (a 7 i) 24 ∧ (a 6 i = 0 ∨ a 6 i = 8 ∨ a 6 i = 16 ∨ a 6 i = 32)
/-- one of the rows of the state becomes f -/
def kUp1 (a : KA) (i : Nat) (f : Nat → Int32) : KA := fun j => if j = i then f else a j
/-- a number of a row becomes x -/
def kSet (f : Nat → Int32) (k : Nat) (x : Int32) : Nat → Int32 := fun j => if j = k then x else f j
/-- one more is refused with the code k -/
def kF (a : KA) (k : Nat) : KA := kUp1 a 3 (kSet (a 3) k (a 3 k + 1))
/-- an answer of the class, of the model -/
def kOX (u : KMem) (x : Int32) (a : KA) : Option Value → KMem → Prop := fun r v => r = some (.int x) ∧ kWd v ∧ (∀ b, 413 ≤ b → v.2.1 b = u.2.1 b) ∧ kRX a v
def kOM (u : KMem) (x : Int32) (a : KA) : Option Value → KMem → Prop := fun r v => r = some (.int x) ∧ kWd v ∧ (∀ b, b ≤ 412 → v.2.1 b = u.2.1 b) ∧ kRM a v
theorem kSet_s (f : Nat → Int32) (k : Nat) (x : Int32) : kSet f k x k = x := if_pos rfl
theorem kSet_n {f : Nat → Int32} {k j : Nat} {x : Int32} (h : ¬ j = k) : kSet f k x j = f j := if_neg h
theorem kUp1_s (a : KA) (i : Nat) (f : Nat → Int32) : kUp1 a i f i = f := if_pos rfl
theorem kUp1_n {a : KA} {i j : Nat} {f : Nat → Int32} (h : ¬ j = i) : kUp1 a i f j = a j := if_neg h
theorem kv_si_set (u : KMem) (b k : Nat) (x : Int32) : (kv_si u b k x).2.1 b = kSet (u.2.1 b) k x := by
  funext j
  by_cases h : j = k
  · subst h; rw [kv_si_s, kSet_s]
  · rw [kv_si_k h, kSet_n h]
theorem kv_si_row {u : KMem} {b k c : Nat} {x : Int32} (h : c ≠ b) : (kv_si u b k x).2.1 c = u.2.1 c := by
  funext j
  exact kv_si_a h
theorem kRM.of {a : KA} {u v : KMem} (h : kRM a u) (he : ∀ b, 413 ≤ b → v.2.1 b = u.2.1 b) : kRM a v := by
  obtain ⟨h1, h2, h3, h4, h5, h6, h7, h8, h9, hA⟩ := h
  exact ⟨by rw [he _ (by omega)]; exact h1, by rw [he _ (by omega)]; exact h2, by rw [he _ (by omega)]; exact h3, by rw [he _ (by omega)]; exact h4, by rw [he _ (by omega)]; exact h5, by rw [he _ (by omega)]; exact h6, by rw [he _ (by omega)]; exact h7, by rw [he _ (by omega)]; exact h8, by rw [he _ (by omega)]; exact h9, ⟨by rw [he _ (by omega)]; exact hA.1, by rw [he _ (by omega)]; exact hA.2⟩⟩
theorem kRX.of {a : KA} {u v : KMem} (h : kRX a u) (ho : kOk a) (he : ∀ b k, b ≤ 412 → ¬ kSX b k → v.2.1 b k = u.2.1 b k) : kRX a v := by
  obtain ⟨h1, h2, h3, h4, h5, h6, h7⟩ := h
  have h30 := (ho.2.2.1.n (by omega)).2
  refine ⟨h1.of (fun b k q1 q2 => he b k (by omega) (by unfold kSX; omega)) ho.1, ⟨fun q => (h2.1 q).of (fun b k q1 q2 => he b k (by omega) (by unfold kSX; omega)) (ho.2.1 q), by rw [he _ _ (by omega) (by unfold kSX; omega)]; exact h2.2⟩, ?_, fun k hk => ?_, ?_, fun k hk => ?_, fun i hi => ⟨?_, ?_, fun k hk => ?_⟩⟩
  · rw [he _ _ (by omega) (by unfold kSX; omega)]; exact h3
  · rw [he _ _ (by omega) (by unfold kSX; omega)]; exact h4 k hk
  · rw [he _ _ (by omega) (by unfold kSX; omega)]; exact h5
  · rw [he _ _ (by omega) (by unfold kSX; omega)]; exact h6 k hk
  · rw [he _ _ (by omega) (by unfold kSX; omega)]; exact (h7 i hi).1
  · rw [he _ _ (by omega) (by unfold kSX; omega)]; exact (h7 i hi).2.1
  · rw [he _ _ (by omega) (by unfold kSX; omega)]; exact (h7 i hi).2.2 k hk
theorem kRX.fnd {a : KA} {u : KMem} (h : kRX a u) (ho : kOk a) {k : Nat} (hk : k < 7) : kRX (kF a k) (kv_si u 400 k (u.2.1 400 k + 1)) := by
  obtain ⟨h1, h2, h3, h4, h5, h6, h7⟩ := h
  have e : ∀ b j, b ≠ 400 → (kv_si u 400 k (u.2.1 400 k + 1)).2.1 b j = u.2.1 b j := fun b j q => kv_si_a q
  refine ⟨h1.of (fun b j q1 q2 => e b j (by omega)) ho.1, ⟨fun q => (h2.1 q).of (fun b j q1 q2 => e b j (by omega)) (ho.2.1 q), by rw [e _ _ (by omega)]; exact h2.2⟩, ?_, fun j hj => ?_, ?_, fun j hj => ?_, fun i hi => ⟨?_, ?_, fun j hj => ?_⟩⟩
  · rw [e _ _ (by omega)]; exact h3
  · show _ = kSet (a 3) k (a 3 k + 1) j
    rw [kv_si_set, h4 k hk]
    by_cases q : j = k
    · subst q; rw [kSet_s, kSet_s]
    · rw [kSet_n q, kSet_n q]; exact h4 j hj
  · rw [e _ _ (by omega)]; exact h5
  · rw [e _ _ (by omega)]; exact h6 j hj
  · rw [e _ _ (by omega)]; exact (h7 i hi).1
  · rw [e _ _ (by omega)]; exact (h7 i hi).2.1
  · rw [e _ _ (by omega)]; exact (h7 i hi).2.2 j hj
theorem kRM.fnd {a : KA} {u : KMem} (h : kRM a u) {k : Nat} : kRM (kF a k) (kv_si u 416 k (u.2.1 416 k + 1)) := by
  obtain ⟨h1, h2, h3, h4, h5, h6, h7, h8, h9, hA⟩ := h
  have e : ∀ b, b ≠ 416 → (kv_si u 416 k (u.2.1 416 k + 1)).2.1 b = u.2.1 b := fun b q => kv_si_row q
  refine ⟨by rw [e _ (by omega)]; exact h1, by rw [e _ (by omega)]; exact h2, by rw [e _ (by omega)]; exact h3, ?_, by rw [e _ (by omega)]; exact h5, by rw [e _ (by omega)]; exact h6, by rw [e _ (by omega)]; exact h7, by rw [e _ (by omega)]; exact h8, by rw [e _ (by omega)]; exact h9, ⟨by rw [e _ (by omega)]; exact hA.1, by rw [e _ (by omega)]; exact hA.2⟩⟩
  rw [kv_si_set, h4]
  rfl
theorem kOk.fnd {a : KA} (h : kOk a) (k : Nat) : kOk (kF a k) := h
/-- `now` becomes f -/
theorem kRM.now {a : KA} {u v : KMem} (h : kRM a u) {f : Nat → Int32} (hf : v.2.1 414 = f) (he : ∀ b, 415 ≤ b → v.2.1 b = u.2.1 b) (h13 : v.2.1 413 = u.2.1 413) : kRM (kUp1 a 0 f) v := by
  obtain ⟨h1, h2, h3, h4, h5, h6, h7, h8, h9, hA⟩ := h
  exact ⟨hf, by rw [he _ (by omega)]; exact h2, by rw [h13]; exact h3, by rw [he _ (by omega)]; exact h4, by rw [he _ (by omega)]; exact h5, by rw [h13]; exact h6, by rw [he _ (by omega)]; exact h7, by rw [he _ (by omega)]; exact h8, by rw [he _ (by omega)]; exact h9, ⟨by rw [he _ (by omega)]; exact hA.1, by rw [he _ (by omega)]; exact hA.2⟩⟩
theorem kRX.now {a : KA} {u v : KMem} (h : kRX a u) (ho : kOk a) {f : Nat → Int32} (hf : kRS 1 f v) (he : ∀ b k, b = 0 ∨ (193 ≤ b ∧ b ≤ 412) → ¬ kSX b k → v.2.1 b k = u.2.1 b k) : kRX (kUp1 a 0 f) v := by
  obtain ⟨h1, h2, h3, h4, h5, h6, h7⟩ := h
  have h30 := (ho.2.2.1.n (by omega)).2
  refine ⟨hf, ⟨fun q => (h2.1 q).of (fun b k q1 q2 => he b k (by omega) (by unfold kSX; omega)) (ho.2.1 q), by rw [he _ _ (by omega) (by unfold kSX; omega)]; exact h2.2⟩, ?_, fun k hk => ?_, ?_, fun k hk => ?_, fun i hi => ⟨?_, ?_, fun k hk => ?_⟩⟩
  · rw [he _ _ (by omega) (by unfold kSX; omega)]; exact h3
  · rw [he _ _ (by omega) (by unfold kSX; omega)]; exact h4 k hk
  · rw [he _ _ (by omega) (by unfold kSX; omega)]; exact h5
  · rw [he _ _ (by omega) (by unfold kSX; omega)]; exact h6 k hk
  · rw [he _ _ (by omega) (by unfold kSX; omega)]; exact (h7 i hi).1
  · rw [he _ _ (by omega) (by unfold kSX; omega)]; exact (h7 i hi).2.1
  · rw [he _ _ (by omega) (by unfold kSX; omega)]; exact (h7 i hi).2.2 k hk
/-- endings of the acts: nothing changed but scratch; refused -/
theorem kOX.id {a : KA} {u v : KMem} {x y : Int32} (h : kRX a u) (ho : kOk a) (hu : kWd u) (e : kEq kSX u v) (hx : y = x) : kOX u x a (some (.int y)) v := ⟨by rw [hx], e.wd hu, fun b hb => e.row (fun k => by unfold kSX; omega), h.of ho (fun b k _ q => e.2.2.1 b k q)⟩
theorem kOX.no {a : KA} {u : KMem} {x y : Int32} (h : kRX a u) (ho : kOk a) (hu : kWd u) {k : Nat} (hk : k < 7) (hx : y = x) : kOX u x (kF a k) (some (.int y)) (kv_si u 400 k (u.2.1 400 k + 1)) := ⟨by rw [hx], hu, fun b hb => kv_si_row (by omega), h.fnd ho hk⟩
theorem kOM.id {a : KA} {u v : KMem} {x y : Int32} (h : kRM a u) (hu : kWd u) (e : kEq kSM u v) (hx : y = x) : kOM u x a (some (.int y)) v := by
  refine ⟨by rw [hx], e.wd hu, fun b hb => e.row (fun k => by unfold kSM; omega), ?_⟩
  obtain ⟨h1, h2, h3, h4, h5, h6, h7, h8, h9, hA⟩ := h
  exact ⟨by rw [e.row (fun k => by unfold kSM; omega)]; exact h1, by rw [e.row (fun k => by unfold kSM; omega)]; exact h2, by rw [e.2.2.1 _ _ (by unfold kSM; omega)]; exact h3, by rw [e.row (fun k => by unfold kSM; omega)]; exact h4, by rw [e.row (fun k => by unfold kSM; omega)]; exact h5, by rw [e.2.2.1 _ _ (by unfold kSM; omega)]; exact h6, by rw [e.row (fun k => by unfold kSM; omega)]; exact h7, by rw [e.row (fun k => by unfold kSM; omega)]; exact h8, by rw [e.row (fun k => by unfold kSM; omega)]; exact h9, ⟨by rw [e.row (fun k => by unfold kSM; omega)]; exact hA.1, by rw [e.2.2.1 _ _ (by unfold kSM; omega)]; exact hA.2⟩⟩
theorem kOM.no {a : KA} {u : KMem} {x y : Int32} (h : kRM a u) (hu : kWd u) {k : Nat} (hx : y = x) : kOM u x (kF a k) (some (.int y)) (kv_si u 416 k (u.2.1 416 k + 1)) := ⟨by rw [hx], hu, fun b hb => kv_si_row (by omega), h.fnd⟩
