/-! THE ABSTRACT MACHINE. One memory for all cells that the law's run makes: the k-th cell made lies at base + k; addresses from 10000 on are the constants (static arrays, texts). A memory is (how many cells, ints, longs, references); the shape of each cell (class or row, how many places) is fixed ahead: kv_sh. -/
abbrev KMem : Type := Nat × (Nat → Nat → Int32) × (Nat → Nat → Int64) × (Nat → Nat → Option Nat)
/-- base, constants' addresses, class numbers, slots, row classes -/
abbrev KW : Type := Nat × (Nat → Nat) × (Nat → ClassId) × (Nat → Nat → Nat) × (Nat → ClassId)
def kv_ad (w : KW) (a : Nat) : Nat := if a < 10000 then w.1 + a else w.2.1 (a - 10000)
def kv_co (w : KW) : Value → Value
  | .ref a => .ref (kv_ad w a)
  | v => v
/-- the shape of a Store's cells, by offset -/
def kv_shS (o : Nat) : Nat × Nat :=
  if o = 0 then (7, 19) else if o = 1 then (22, 30) else if o ≤ 4 then (20, 16) else if o = 5 then (23, 20) else if o = 6 then (24, 10) else if o = 7 then (25, 40) else if o = 8 then (20, 24) else if o = 9 then (20, 7) else if o = 10 then (20, 60) else if o = 11 then (20, 33)
  else if o < 72 then (if o % 2 = 0 then (0, 6) else (20, 3))
  else if o < 132 then (if o % 3 = 0 then (1, 5) else (20, 2))
  else if o < 152 then (if o % 2 = 0 then (9, 4) else (20, 60))
  else (2, 6)
/-- the other cells, from 385 on -/
def kv_shL : List (Nat × Nat) := [(3, 8), (20, 4), (20, 60), (5, 7), (4, 7), (21, 11), (21, 11), (21, 2048), (20, 2048), (8, 5), (20, 20), (20, 20), (10, 6), (20, 30), (26, 4), (20, 7),
  (6, 4), (20, 24), (20, 384), (6, 4), (20, 24), (20, 384), (6, 4), (20, 24), (20, 384), (6, 4), (20, 24), (20, 384),
  (12, 32), (20, 1421), (20, 1421), (20, 7), (20, 7), (27, 3), (20, 61), (20, 61), (21, 11), (21, 2048), (20, 2048), (20, 20), (20, 20), (20, 6), (20, 6), (20, 30), (20, 4), (20, 4), (20, 96), (20, 24)]
def kv_sh (a : Nat) : Nat × Nat := if a = 0 then (11, 10) else if a < 193 then kv_shS (a - 1) else if a < 385 then kv_shS (a - 193) else kv_shL.getD (a - 385) (0, 0)
/-- which fields are references -/
def kv_irL : List (List Bool) := [
  [false, false, false, false, false, true],
  [true, true, false, false, false],
  [false, false, false, false, false, false],
  [true, true, true, false, false, false, false, false],
  [true, true, true, false, true, true, true],
  [true, false, true, false, false, false, false],
  [true, false, false, true],
  [true, false, true, true, true, false, true, false, true, false, true, false, true, true, true, false, true, false, false],
  [true, true, true, false, false],
  [true, false, false, false],
  [true, false, false, false, false, false],
  [true, true, true, true, true, true, true, true, true, false],
  [true, true, false, true, true, true, false, false, false, false, false, false, true, true, true, true, true, true, true, false, true, true, false, true, false, false, false, false, true, true, true, true]]
def kv_ir (ci k : Nat) : Bool := (kv_irL.getD ci []).getD k false
/-- the rows' types: 20 int, 21 long, 22 .. -/
def kv_ty (w : KW) : List (ClassId × FieldType) := [(w.2.2.2.2 0, .int), (w.2.2.2.2 1, .long), (w.2.2.2.2 2, .object "KnockTable$Car"), (w.2.2.2.2 3, .object "KnockTable$Crash"), (w.2.2.2.2 4, .object "KnockTable$Treaty"), (w.2.2.2.2 5, .object "KnockTable$Entry"), (w.2.2.2.2 6, .object "KnockTable$Sheet"), (w.2.2.2.2 7, .object "java/lang/String")]
abbrev kv_G (w : KW) : va_G := (w.2.2.1, w.2.2.2.1)
def kv_A (w : KW) : Nat → Prop := fun q => w.1 ≤ q
def kv_fv (w : KW) (u : KMem) (ci a k : Nat) : Value := if kv_ir ci k then va_rf ((u.2.2.2 a k).map (kv_ad w)) else .int (u.2.1 a k)
def kv_ce (w : KW) (u : KMem) (a : Nat) : va_E :=
  if (kv_sh a).1 < 20 then .inr ((kv_sh a).1, (List.range (kv_sh a).2).map (kv_fv w u (kv_sh a).1 a))
  else if (kv_sh a).1 = 20 then .inl (w.2.2.2.2 0, (kv_sh a).2, .inl (u.2.1 a))
  else if (kv_sh a).1 = 21 then .inl (w.2.2.2.2 1, (kv_sh a).2, .inr (.inl (u.2.2.1 a)))
  else .inl (w.2.2.2.2 ((kv_sh a).1 - 20), (kv_sh a).2, .inr (.inr (.inr (.inr (fun j => (u.2.2.2 a j).map (kv_ad w))))))
def kv_ws (w : KW) (u : KMem) : va_W := (List.range u.1).map (fun a => (kv_ad w a, kv_ce w u a))
def kv_H (w : KW) (u : KMem) (H : Heap) : Prop := va_P (kv_G w) vwCl (kv_ws w u) H ∧ (u.1 = 433 ∨ H.size = w.1 + u.1) ∧ u.1 ≤ 433
theorem kv_adl {w : KW} {a : Nat} (h : a < 10000) : kv_ad w a = w.1 + a := if_pos h
theorem kv_D (w : KW) (u : KMem) (h : u.1 ≤ 433) : va_D (kv_A w) (kv_ws w u) := by
  have key : ∀ (k : Nat) (q : Nat × va_E), (kv_ws w u)[k]? = some q → k < u.1 ∧ q.1 = w.1 + k := by
    intro k q hk
    unfold kv_ws at hk
    rw [List.getElem?_map] at hk
    by_cases hl : k < u.1
    · rw [List.getElem?_range hl] at hk
      have h1 : some (kv_ad w k, kv_ce w u k) = some q := hk
      cases h1
      exact ⟨hl, kv_adl (by omega)⟩
    · rw [List.getElem?_eq_none (by simp; omega)] at hk
      cases hk
  refine ⟨fun i j p q hi hj e => ?_, fun k q hk => ?_⟩
  · obtain ⟨h1, e1⟩ := key i p hi
    obtain ⟨h2, e2⟩ := key j q hj
    omega
  · obtain ⟨h1, e1⟩ := key k q hk
    show w.1 ≤ q.1
    omega
theorem kv_at {w : KW} {u : KMem} {a : Nat} (h : a < u.1) : (kv_ws w u)[a]? = some (kv_ad w a, kv_ce w u a) := by
  unfold kv_ws
  rw [List.getElem?_map, List.getElem?_range h]
  rfl
/-- the static rows: class, name, descriptor, type, contents -/
def kv_stT : List (List Int32) := [[10, 15, 70, 20, 30, 0, 1], [9999, 99, 60], [99, 50, 100, 100, 99, 9999, 50], [108, 109, 110, 118, 114, 101, 99, 0, 99, 107, 98, 0], [-1, 0, 1, 0, 3], [10, 11, 12, 13, 0, 20, 0, 21, 30, 0, 31, 0, 40, 0, 41, 0, 0, 50, 51, 52]]
def kv_stN : List (String × String × String × FieldType) := [("KnockTable", "RATES_AT_FIRST", "[I", .int), ("KnockTable", "ZONE_TOPS", "[I", .int), ("KnockTable", "RATE_TOPS", "[I", .int), ("KnockTable", "NAMES", "[C", .char), ("KnockTable", "KIND_ABOVE", "[I", .int), ("KnockTable$Voices", "BODIES", "[I", .int)]
/-- the texts: pool entry, text, bytes -/
def kv_sx : List (Nat × String × List Int32) := [(24, "lmnv", [108, 109, 110, 118]), (26, "rec", [114, 101, 99]), (28, "ckb", [99, 107, 98]), (260, "max", [109, 97, 120]), (261, "min", [109, 105, 110]), (262, "(", [40]), (271, ",", [44]), (277, ")", [41]), (279, "!", [33]), (248, "-", [45]), (253, "*", [42]), (255, "/", [47]), (246, "+", [43]), (237, "<", [60]), (239, "=", [61]), (241, ">", [62]), (232, "&", [38]), (223, "|", [124])]
def kv_sb : List (List Int32) := kv_sx.map (fun q => q.2.2)
def kv_sl : List Nat := kv_sx.map (fun q => q.2.2.length)
/-- what the constants are -/
def kv_KC (w : KW) (U : State) (H : Heap) : Prop :=
  (∀ (j : Nat) (q : String × String × String × FieldType) (t : List Int32), kv_stN[j]? = some q → kv_stT[j]? = some t → va_Z q.1 q.2.1 q.2.2.1 (.ref (w.2.1 j)) (kv_A w) U H ∧ va_T q.2.2.2 (w.2.1 j) t.length (fun i => .int (t.getD i 0)) (kv_A w) U H) ∧
  vk_S 18 kv_sl kv_sb (fun i => w.2.1 (100 + i)) (fun i => w.2.1 (200 + i)) (kv_A w) U H ∧
  (∀ (i : Nat) (q : Nat × String × List Int32), kv_sx[i]? = some q → vk_R "KnockTableModel" q.1 q.2.1 (w.2.1 (100 + i)) U) ∧
  va_Z "java/lang/String" "COMPACT_STRINGS" "Z" (.int 1) (kv_A w) U H ∧
  va_Zq "jdk/internal/util/Preconditions" "SIOOBE_FORMATTER" "Ljava/util/function/BiFunction;" (kv_A w) U H ∧
  (∃ cell : Cell, H[w.2.1 0]? = some cell ∧ ¬ kv_A w (w.2.1 0) ∧ cell.cls = w.2.2.2.2 0 ∧ (∀ k, cell.vm ≠ .statics k) ∧ cell.vm ≠ .unknown ∧ cell.slots = (arrV (w.2.2.2.2 0) 7 (fun j => .int ((kv_stT.getD 0 []).getD j 0))).slots)
/-- links between nest mates; rows over classes -/
def kv_nF : List (String × Nat × String × String × String) := [("KnockTable$Store", 48, "KnockTable", "RATES_AT_FIRST", "[I"), ("KnockTable$Reader", 93, "KnockTable", "NAMES", "[C"), ("KnockTable$Voices", 47, "KnockTable", "KIND_ABOVE", "[I")]
def kv_nM : List (String × Nat × MethodName) := [("KnockTable$Store", 69, ⟨"KnockTable$Car", "<init>", "()V"⟩), ("KnockTable$Store", 70, ⟨"KnockTable$Crash", "<init>", "()V"⟩), ("KnockTable$Store", 71, ⟨"KnockTable$Treaty", "<init>", "()V"⟩), ("KnockTable$Store", 72, ⟨"KnockTable$Entry", "<init>", "()V"⟩), ("KnockTable", 30, ⟨"KnockTable$Reader", "<init>", "()V"⟩), ("KnockTable", 53, ⟨"KnockTable$Voices", "<init>", "()V"⟩), ("KnockTable", 68, ⟨"KnockTable$Sheet", "<init>", "()V"⟩), ("KnockTable$Ledger", 104, ⟨"KnockTable", "outside", "(III)Z"⟩)]
def kv_nA : List String := ["KnockTable$Car", "KnockTable$Crash", "KnockTable$Treaty", "KnockTable$Entry", "KnockTable$Sheet", "java/lang/String"]
def kv_Nw (U : State) : Prop := (∀ q ∈ kv_nF, va_Nw (.fieldLinkNest q.1 q.2.1 q.2.2.1 q.2.2.2.1 q.2.2.2.2 "KnockTable") U) ∧ (∀ q ∈ kv_nM, va_Nw (.methodLinkNest q.1 q.2.1 q.2.2 "KnockTable") U) ∧ (∀ C ∈ kv_nA, va_AO C U) ∧ va_Nw (.castable "[I" "java/lang/Cloneable") U
theorem kv_Nw.to {s U : State} (hW : s.WarmedH U.vm) (h : kv_Nw s) : kv_Nw U :=
  ⟨fun q hq => (h.1 q hq).warmF hW, fun q hq => (h.2.1 q hq).warmM hW, fun C hC => (h.2.2.1 C hC).moved hW.alike, h.2.2.2.warmC hW⟩
theorem kv_Nw.same {s U : State} (hv : s.vm = U.vm) (h : kv_Nw s) : kv_Nw U :=
  ⟨fun q hq => (h.1 q hq).same rfl hv, fun q hq => (h.2.1 q hq).same rfl hv, fun C hC => (h.2.2.1 C hC).moved (by rw [hv]; exact Vm.Alike.refl _), h.2.2.2.same rfl hv⟩
def kv_K (w : KW) (U : State) : Prop := va_K (kv_G w) vwCl (kv_ty w) U ∧ kv_KC w U U.heap ∧ w.1 ≤ U.heap.size ∧ kv_Nw U
theorem kv_K.to {w : KW} {s U : State} {locs : List Loc} (hW : s.WarmedH U.vm) (hS : va_S (kv_A w) s.heap U.heap locs) (h : kv_K w s) : kv_K w U := by
  obtain ⟨hK, ⟨h1, h2, h3, h4, h5, cell, h6, h7, h8⟩, hz, hN⟩ := h
  have hq : ∀ a : Nat, a < s.heap.size → ¬ kv_A w a → U.heap[a]? = s.heap[a]? := hS.2.1
  refine ⟨va_K.moved hW.alike hK, ⟨fun j q t hj ht => ⟨((h1 j q t hj ht).1.moved hW.alike).kept hq, ((h1 j q t hj ht).2.moved hW.alike).kept hq⟩, (h2.moved hW.alike).kept hq, fun i q hi => (h3 i q hi).warm hW, (h4.moved hW.alike).kept hq, (h5.moved hW.alike).kept hq, cell, by rw [hq _ (Array.getElem?_eq_some_iff.mp h6).1 h7]; exact h6, h7, h8⟩, Nat.le_trans hz hS.1, hN.to hW⟩
theorem kv_K.blind {w : KW} {U : State} (g : JFrame) (mk : MethodId) (a : Array Value) (h : kv_K w U) : kv_K w (U.calling g mk a) := by
  obtain ⟨hK, ⟨h1, h2, h3, h4, h5, h6⟩, hz, hN⟩ := h
  have hv : U.vm.Alike (U.calling g mk a).vm := Vm.Alike.refl U.vm
  exact ⟨va_K.moved hv hK, ⟨fun j q t hj ht => ⟨(h1 j q t hj ht).1.moved hv, (h1 j q t hj ht).2.moved hv⟩, h2.moved hv, fun i q hi => (h3 i q hi).same rfl, h4.moved hv, h5.moved hv, h6⟩, hz, hN.same rfl⟩
/-- a method's end -/
def kv_Qc (w : KW) (Q : Option Value → KMem → Prop) : Array Value → State → Outcome → State → Prop := fun _ st oc t => (∃ (r : Option Value) (u : KMem), oc = .returned (r.map (kv_co w)) ∧ Q r u ∧ kv_H w u t.heap) ∧ va_F (kv_A w) st t
abbrev kv_rm (d nc ns : Nat) : Room := { frames := d, cells := nc, slots := ns, locals := 100 * d }
abbrev kv_cw (m : KM) : Cond := .code m.1 m.2.1 m.2.2.1 m.2.2.2
/-- the words that hold in every state of the run -/
def kv_tb : List Cond := lw_tbl.filter goodWord
/-- A CONTRACT: from every state of the world w with the memory u, the method m called with the values as comes back, and Q holds of its answer and its memory; d calls deep at most, nc cells of ns places are new at most -/
def KC (w : KW) (l : Launch) (m : KM) (d nc ns : Nat) (as : List Value) (u : KMem) (Q : Option Value → KMem → Prop) : Prop :=
  Met l m.1 (kv_cw m :: kv_tb) (kv_rm d nc ns) (va_Pc (as.map (kv_co w)) (fun U => kv_K w U ∧ kv_H w u U.heap)) (kv_Qc w Q) nc ns (kv_A w)
/-- the locals that are known -/
def kv_ll (w : KW) : Nat → List (Option Value) → List (Nat × Value)
  | _, [] => []
  | i, none :: t => kv_ll w (i + 1) t
  | i, some v :: t => (i, kv_co w v) :: kv_ll w (i + 1) t
theorem kv_ll_mem {w : KW} : ∀ (ls : List (Option Value)) (i : Nat) (q : Nat × Value), q ∈ kv_ll w i ls ↔ ∃ (k : Nat) (v : Value), ls[k]? = some (some v) ∧ q = (i + k, kv_co w v)
  | [], i, q => by simp [kv_ll]
  | none :: t, i, q => by
    rw [kv_ll, kv_ll_mem t (i + 1) q]
    constructor
    · rintro ⟨k, v, h1, h2⟩
      exact ⟨k + 1, v, by simpa using h1, by rw [h2]; congr 1; omega⟩
    · rintro ⟨k, v, h1, h2⟩
      cases k with
      | zero => simp at h1
      | succ k => exact ⟨k, v, by simpa using h1, by rw [h2]; congr 1; omega⟩
  | some x :: t, i, q => by
    rw [kv_ll, List.mem_cons, kv_ll_mem t (i + 1) q]
    constructor
    · rintro (h | ⟨k, v, h1, h2⟩)
      · exact ⟨0, x, rfl, h⟩
      · exact ⟨k + 1, v, by simpa using h1, by rw [h2]; congr 1; omega⟩
    · rintro ⟨k, v, h1, h2⟩
      cases k with
      | zero =>
        simp at h1
        subst h1
        exact Or.inl h2
      | succ k => exact Or.inr ⟨k, v, by simpa using h1, by rw [h2]; congr 1; omega⟩
/-- what does not change within a method -/
def kv_Fx (w : KW) (mm : KM) (dd : Nat) (p : Program) (R : Room) (s : State) (m : MethodId) (args : Array Value) (meth : Method) (c : Code) (mc ms : Nat) : Prop :=
  p.tables.exec = Jvm.exec ∧ c.code = mm.2.1 ∧ meth.sig.returnType = mm.2.2.2 ∧ meth.locks = false ∧ c.maxLocals = mm.2.2.1 ∧ s.vm.findClass mm.1.cls = some m.cls ∧ meth.name = mm.1.name ∧ (∀ x ∈ kv_tb, x.before args s = true) ∧ dd ≤ R.frames ∧ 100 * dd ≤ R.locals ∧ mc ≤ R.cells ∧ ms ≤ R.slots ∧ kv_K w s
/-- THE JUDGEMENT: the method mm, standing at pc with the locals ls, the stack st and the memory u, comes to its end, and Q holds there -/
def KV (w : KW) (l : Launch) (mm : KM) (dd nc ns : Nat) (pc : Nat) (ls : List (Option Value)) (st : List Value) (u : KMem) (Q : Option Value → KMem → Prop) : Prop :=
  ∀ (p : Program) (e : Env) (R : Room) (s : State) (m : MethodId) (args : Array Value) (below : List Frame) (meth : Method) (c : Code) (H : Heap) (locs : List Loc) (cells slots mc ms : Nat) (arr : Array Slot),
    kv_Fx w mm dd p R s m args meth c mc ms → va_S (kv_A w) s.heap H locs → kv_H w u H → lv_has arr mm.2.2.1 (kv_ll w 0 ls) → cells + nc ≤ mc → slots + ns ≤ ms →
    W p l e R s m args below meth c H locs cells slots (MQ below (kv_Qc w Q) args s mc ms (kv_A w)) (F0 m pc arr (st.map (kv_co w)))
/-- a method's locals at its entry -/
def kv_en : List Value → List (Option Value)
  | [] => []
  | .long x :: t => some (.long x) :: none :: kv_en t
  | .double x :: t => some (.double x) :: none :: kv_en t
  | v :: t => some v :: kv_en t
theorem kv_en_mem {w : KW} : ∀ (vs : List Value) (i : Nat) (q : Nat × Value), q ∈ kv_ll w i (kv_en vs) → q ∈ lv_args i (vs.map (kv_co w))
  | [], i, q, h => by simp [kv_en, kv_ll] at h
  | .long x :: t, i, q, h => by
    simp only [kv_en, kv_ll, List.mem_cons] at h
    simp only [List.map_cons, lv_args, List.mem_cons]
    rcases h with h | h
    · exact Or.inl h
    · exact Or.inr (kv_en_mem t (i + 2) q h)
  | .double x :: t, i, q, h => by
    simp only [kv_en, kv_ll, List.mem_cons] at h
    simp only [List.map_cons, lv_args, List.mem_cons]
    rcases h with h | h
    · exact Or.inl h
    · exact Or.inr (kv_en_mem t (i + 2) q h)
  | .int x :: t, i, q, h => by
    simp only [kv_en, kv_ll, List.mem_cons] at h
    simp only [List.map_cons, lv_args, List.mem_cons]
    rcases h with h | h
    · exact Or.inl h
    · exact Or.inr (kv_en_mem t (i + 1) q h)
  | .float x :: t, i, q, h => by
    simp only [kv_en, kv_ll, List.mem_cons] at h
    simp only [List.map_cons, lv_args, List.mem_cons]
    rcases h with h | h
    · exact Or.inl h
    · exact Or.inr (kv_en_mem t (i + 1) q h)
  | .null :: t, i, q, h => by
    simp only [kv_en, kv_ll, List.mem_cons] at h
    simp only [List.map_cons, lv_args, List.mem_cons]
    rcases h with h | h
    · exact Or.inl h
    · exact Or.inr (kv_en_mem t (i + 1) q h)
  | .ref x :: t, i, q, h => by
    simp only [kv_en, kv_ll, List.mem_cons] at h
    simp only [List.map_cons, lv_args, List.mem_cons]
    rcases h with h | h
    · exact Or.inl h
    · exact Or.inr (kv_en_mem t (i + 1) q h)
  | .retAddr x :: t, i, q, h => by
    simp only [kv_en, kv_ll, List.mem_cons] at h
    simp only [List.map_cons, lv_args, List.mem_cons]
    rcases h with h | h
    · exact Or.inl h
    · exact Or.inr (kv_en_mem t (i + 1) q h)
theorem kv_en_len {w : KW} : ∀ (vs : List Value), (lg_sl (vs.map (kv_co w))).length = (kv_en vs).length
  | [] => rfl
  | .long x :: t => by
    have h := kv_en_len (w := w) t
    simp only [lg_sl, List.map_cons, List.flatMap_cons, List.length_append, kv_en, List.length_cons] at h ⊢
    rw [h]; simp [kv_co, Value.category]; omega
  | .double x :: t => by
    have h := kv_en_len (w := w) t
    simp only [lg_sl, List.map_cons, List.flatMap_cons, List.length_append, kv_en, List.length_cons] at h ⊢
    rw [h]; simp [kv_co, Value.category]; omega
  | .int x :: t => by
    have h := kv_en_len (w := w) t
    simp only [lg_sl, List.map_cons, List.flatMap_cons, List.length_append, kv_en, List.length_cons] at h ⊢
    rw [h]; simp [kv_co, Value.category]; omega
  | .float x :: t => by
    have h := kv_en_len (w := w) t
    simp only [lg_sl, List.map_cons, List.flatMap_cons, List.length_append, kv_en, List.length_cons] at h ⊢
    rw [h]; simp [kv_co, Value.category]; omega
  | .null :: t => by
    have h := kv_en_len (w := w) t
    simp only [lg_sl, List.map_cons, List.flatMap_cons, List.length_append, kv_en, List.length_cons] at h ⊢
    rw [h]; simp [kv_co, Value.category]; omega
  | .ref x :: t => by
    have h := kv_en_len (w := w) t
    simp only [lg_sl, List.map_cons, List.flatMap_cons, List.length_append, kv_en, List.length_cons] at h ⊢
    rw [h]; simp [kv_co, Value.category]; omega
  | .retAddr x :: t => by
    have h := kv_en_len (w := w) t
    simp only [lg_sl, List.map_cons, List.flatMap_cons, List.length_append, kv_en, List.length_cons] at h ⊢
    rw [h]; simp [kv_co, Value.category]; omega
/-- A CONTRACT OUT OF A WALK from pc 0 -/
theorem KC.of {w : KW} {l : Launch} {m : KM} {d nc ns : Nat} {as : List Value} {u : KMem} {Q : Option Value → KMem → Prop} {ls : List (Option Value)} (hp : plainName m.1.cls = true) (hls : kv_en as ++ List.replicate (m.2.2.1 - (kv_en as).length) none = ls) (hn : (kv_en as).length ≤ m.2.2.1)
    (k : KV w l m d nc ns 0 ls [] u Q) : KC w l m d nc ns as u Q := by
  refine Met.ofW (cc := m.2.1) (maxL := m.2.2.1) (ret := m.2.2.2) hp rfl ?_
  intro p e s mi args below meth c s₁ B hml hv
  obtain ⟨rfl, hK, hH⟩ := hv
  have hts := atoms_spec (ws := kv_cw m :: kv_tb) B.pre
  have hown : s.vm.findClass m.1.cls = some mi.cls := findClass_of_methodNamed B.named
  have hl := lv_entry (as.map (kv_co w)) (n := m.2.2.1) (by rw [kv_en_len]; exact hn)
  rw [lg_entry_eq]
  refine k p e _ s mi _ below meth c s.heap [] 0 0 nc ns _ ⟨B.exec, B.bytes, B.returns, B.notSynchronized, hml, hown, (name_of_methodNamed B.named B.method).1, fun x hx => hts x (List.mem_cons_of_mem _ hx), Nat.le_refl d, Nat.le_refl (100 * d), Nat.le_refl nc, Nat.le_refl ns, hK⟩ va_S.rf hH ⟨hl.1, hl.2.1, fun q hq => ?_⟩ (by omega) (by omega)
  refine hl.2.2 q (kv_en_mem as 0 q ?_)
  rw [kv_ll_mem] at hq ⊢
  obtain ⟨k, v, h1, h2⟩ := hq
  refine ⟨k, v, ?_, h2⟩
  rw [← hls] at h1
  by_cases hk : k < (kv_en as).length
  · rwa [List.getElem?_append_left hk] at h1
  · rw [List.getElem?_append_right (by omega)] at h1
    obtain ⟨h3, h4⟩ := List.getElem?_eq_some_iff.mp h1
    rw [List.getElem_replicate] at h4
    cases h4
