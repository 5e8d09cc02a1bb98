theorem kv_co_cat {w : KW} (v : Value) : (kv_co w v).category = v.category := by cases v <;> rfl
theorem kv_iconst {w : KW} {l : Launch} {mm : KM} {dd nc ns pc : Nat} {ls : List (Option Value)} {rest : List Value} {u : KMem} {Q : Option Value → KMem → Prop} {n : Int} (d : decode mm.2.1 pc = .ok (.iconst n, 1)) (x : Int32) (hv : Int32.ofInt n = x) (k : KV w l mm dd nc ns (pc + 1) ls (.int x :: rest) u Q) : KV w l mm dd nc ns pc ls (rest) u Q := by
  intro p e R s m args below meth c H locs cells slots mc ms arr F S M L c1 c2
  exact lv_iconst F.1 F.2.1 d hv (k p e R s m args below meth c H locs cells slots mc ms arr F S M L c1 c2)
theorem kv_bipush {w : KW} {l : Launch} {mm : KM} {dd nc ns pc : Nat} {ls : List (Option Value)} {rest : List Value} {u : KMem} {Q : Option Value → KMem → Prop} {n : Int} (d : decode mm.2.1 pc = .ok (.bipush n, 2)) (x : Int32) (hv : (Int8.ofInt n).toInt32 = x) (k : KV w l mm dd nc ns (pc + 2) ls (.int x :: rest) u Q) : KV w l mm dd nc ns pc ls (rest) u Q := by
  intro p e R s m args below meth c H locs cells slots mc ms arr F S M L c1 c2
  exact lv_bipush F.1 F.2.1 d hv (k p e R s m args below meth c H locs cells slots mc ms arr F S M L c1 c2)
theorem kv_sipush {w : KW} {l : Launch} {mm : KM} {dd nc ns pc : Nat} {ls : List (Option Value)} {rest : List Value} {u : KMem} {Q : Option Value → KMem → Prop} {n : Int} (d : decode mm.2.1 pc = .ok (.sipush n, 3)) (x : Int32) (hv : (Int16.ofInt n).toInt32 = x) (k : KV w l mm dd nc ns (pc + 3) ls (.int x :: rest) u Q) : KV w l mm dd nc ns pc ls (rest) u Q := by
  intro p e R s m args below meth c H locs cells slots mc ms arr F S M L c1 c2
  exact lv_sipush F.1 F.2.1 d hv (k p e R s m args below meth c H locs cells slots mc ms arr F S M L c1 c2)
theorem kv_lconst {w : KW} {l : Launch} {mm : KM} {dd nc ns pc : Nat} {ls : List (Option Value)} {rest : List Value} {u : KMem} {Q : Option Value → KMem → Prop} {n : Fin 2} (d : decode mm.2.1 pc = .ok (.lconst n, 1)) (x : Int64) (hv : Int64.ofNat (n : Nat) = x) (k : KV w l mm dd nc ns (pc + 1) ls (.long x :: rest) u Q) : KV w l mm dd nc ns pc ls (rest) u Q := by
  intro p e R s m args below meth c H locs cells slots mc ms arr F S M L c1 c2
  exact lv_lconst F.1 F.2.1 d hv (k p e R s m args below meth c H locs cells slots mc ms arr F S M L c1 c2)
theorem kv_null {w : KW} {l : Launch} {mm : KM} {dd nc ns pc : Nat} {ls : List (Option Value)} {rest : List Value} {u : KMem} {Q : Option Value → KMem → Prop} (d : decode mm.2.1 pc = .ok (.aconst_null, 1)) (k : KV w l mm dd nc ns (pc + 1) ls (.null :: rest) u Q) : KV w l mm dd nc ns pc ls (rest) u Q := by
  intro p e R s m args below meth c H locs cells slots mc ms arr F S M L c1 c2
  exact lv_null F.1 F.2.1 d (k p e R s m args below meth c H locs cells slots mc ms arr F S M L c1 c2)
theorem kv_ldc {w : KW} {l : Launch} {mm : KM} {dd nc ns pc : Nat} {ls : List (Option Value)} {rest : List Value} {u : KMem} {Q : Option Value → KMem → Prop} {i : Nat} {x : Int32} (d : decode mm.2.1 pc = .ok (.ldc i, 2)) (hw : Cond.constant mm.1.cls i x ∈ kv_tb) (k : KV w l mm dd nc ns (pc + 2) ls (.int x :: rest) u Q) : KV w l mm dd nc ns pc ls (rest) u Q := by
  intro p e R s m args below meth c H locs cells slots mc ms arr F S M L c1 c2
  exact lv_ldc F.1 F.2.1 F.2.2.2.2.2.1 (F.2.2.2.2.2.2.2.1 _ hw) d (k p e R s m args below meth c H locs cells slots mc ms arr F S M L c1 c2)
theorem kv_ldcw {w : KW} {l : Launch} {mm : KM} {dd nc ns pc : Nat} {ls : List (Option Value)} {rest : List Value} {u : KMem} {Q : Option Value → KMem → Prop} {i : Nat} {x : Int32} (d : decode mm.2.1 pc = .ok (.ldc_w i, 3)) (hw : Cond.constant mm.1.cls i x ∈ kv_tb) (k : KV w l mm dd nc ns (pc + 3) ls (.int x :: rest) u Q) : KV w l mm dd nc ns pc ls (rest) u Q := by
  intro p e R s m args below meth c H locs cells slots mc ms arr F S M L c1 c2
  exact lv_ldcw F.1 F.2.1 F.2.2.2.2.2.1 (F.2.2.2.2.2.2.2.1 _ hw) d (k p e R s m args below meth c H locs cells slots mc ms arr F S M L c1 c2)
theorem kv_ldc2 {w : KW} {l : Launch} {mm : KM} {dd nc ns pc : Nat} {ls : List (Option Value)} {rest : List Value} {u : KMem} {Q : Option Value → KMem → Prop} {i : Nat} {x : Int64} (d : decode mm.2.1 pc = .ok (.ldc2_w i, 3)) (hw : Cond.constantLong mm.1.cls i x ∈ kv_tb) (k : KV w l mm dd nc ns (pc + 3) ls (.long x :: rest) u Q) : KV w l mm dd nc ns pc ls (rest) u Q := by
  intro p e R s m args below meth c H locs cells slots mc ms arr F S M L c1 c2
  exact lv_ldc2 F.1 F.2.1 F.2.2.2.2.2.1 (F.2.2.2.2.2.2.2.1 _ hw) d (k p e R s m args below meth c H locs cells slots mc ms arr F S M L c1 c2)
theorem kv_lget {w : KW} {arr : Array Slot} {n i : Nat} {ls : List (Option Value)} {v : Value} (L : lv_has arr n (kv_ll w 0 ls)) (h : ls[i]? = some (some v)) : arr[i]? = some (.val (kv_co w v)) :=
  L.2.2 (i, kv_co w v) ((kv_ll_mem ls 0 _).mpr ⟨i, v, h, by rw [Nat.zero_add]⟩)
theorem kv_iload_n {w : KW} {l : Launch} {mm : KM} {dd nc ns pc : Nat} {ls : List (Option Value)} {rest : List Value} {u : KMem} {Q : Option Value → KMem → Prop} {j : Fin 4} {x : Int32} (d : decode mm.2.1 pc = .ok (.iload_n j, 1)) (h : ls[(j : Nat)]? = some (some (.int x))) (k : KV w l mm dd nc ns (pc + 1) ls (.int x :: rest) u Q) : KV w l mm dd nc ns pc ls (rest) u Q := by
  intro p e R s m args below meth c H locs cells slots mc ms arr F S M L c1 c2
  exact lv_iload_n F.1 F.2.1 d rfl (kv_lget L h) (k p e R s m args below meth c H locs cells slots mc ms arr F S M L c1 c2)
theorem kv_iload {w : KW} {l : Launch} {mm : KM} {dd nc ns pc : Nat} {ls : List (Option Value)} {rest : List Value} {u : KMem} {Q : Option Value → KMem → Prop} {i : Nat} {x : Int32} (d : decode mm.2.1 pc = .ok (.iload i, 2)) (h : ls[i]? = some (some (.int x))) (k : KV w l mm dd nc ns (pc + 2) ls (.int x :: rest) u Q) : KV w l mm dd nc ns pc ls (rest) u Q := by
  intro p e R s m args below meth c H locs cells slots mc ms arr F S M L c1 c2
  exact lv_iload F.1 F.2.1 d (kv_lget L h) (k p e R s m args below meth c H locs cells slots mc ms arr F S M L c1 c2)
theorem kv_lload_n {w : KW} {l : Launch} {mm : KM} {dd nc ns pc : Nat} {ls : List (Option Value)} {rest : List Value} {u : KMem} {Q : Option Value → KMem → Prop} {j : Fin 4} {x : Int64} (d : decode mm.2.1 pc = .ok (.lload_n j, 1)) (h : ls[(j : Nat)]? = some (some (.long x))) (k : KV w l mm dd nc ns (pc + 1) ls (.long x :: rest) u Q) : KV w l mm dd nc ns pc ls (rest) u Q := by
  intro p e R s m args below meth c H locs cells slots mc ms arr F S M L c1 c2
  exact lv_lload_n F.1 F.2.1 d rfl (kv_lget L h) (k p e R s m args below meth c H locs cells slots mc ms arr F S M L c1 c2)
theorem kv_lload {w : KW} {l : Launch} {mm : KM} {dd nc ns pc : Nat} {ls : List (Option Value)} {rest : List Value} {u : KMem} {Q : Option Value → KMem → Prop} {i : Nat} {x : Int64} (d : decode mm.2.1 pc = .ok (.lload i, 2)) (h : ls[i]? = some (some (.long x))) (k : KV w l mm dd nc ns (pc + 2) ls (.long x :: rest) u Q) : KV w l mm dd nc ns pc ls (rest) u Q := by
  intro p e R s m args below meth c H locs cells slots mc ms arr F S M L c1 c2
  exact lv_lload F.1 F.2.1 d (kv_lget L h) (k p e R s m args below meth c H locs cells slots mc ms arr F S M L c1 c2)
theorem kv_aload_n {w : KW} {l : Launch} {mm : KM} {dd nc ns pc : Nat} {ls : List (Option Value)} {rest : List Value} {u : KMem} {Q : Option Value → KMem → Prop} {j : Fin 4} {x : Nat} (d : decode mm.2.1 pc = .ok (.aload_n j, 1)) (h : ls[(j : Nat)]? = some (some (.ref x))) (k : KV w l mm dd nc ns (pc + 1) ls (.ref x :: rest) u Q) : KV w l mm dd nc ns pc ls (rest) u Q := by
  intro p e R s m args below meth c H locs cells slots mc ms arr F S M L c1 c2
  exact lv_aload_n F.1 F.2.1 d rfl (kv_lget L h) (k p e R s m args below meth c H locs cells slots mc ms arr F S M L c1 c2)
theorem kv_aload {w : KW} {l : Launch} {mm : KM} {dd nc ns pc : Nat} {ls : List (Option Value)} {rest : List Value} {u : KMem} {Q : Option Value → KMem → Prop} {i : Nat} {x : Nat} (d : decode mm.2.1 pc = .ok (.aload i, 2)) (h : ls[i]? = some (some (.ref x))) (k : KV w l mm dd nc ns (pc + 2) ls (.ref x :: rest) u Q) : KV w l mm dd nc ns pc ls (rest) u Q := by
  intro p e R s m args below meth c H locs cells slots mc ms arr F S M L c1 c2
  exact lv_aload F.1 F.2.1 d (kv_lget L h) (k p e R s m args below meth c H locs cells slots mc ms arr F S M L c1 c2)
/-- no long stands ahead of place i -/
def kv_wd : Option (Option Value) → Bool
  | some (some (.long _)) => false
  | some (some (.double _)) => false
  | _ => true
def kv_nl (ls : List (Option Value)) : Nat → Bool
  | 0 => true
  | k + 1 => kv_wd ls[k]?
theorem kv_nl_spec (ls : List (Option Value)) (i : Nat) (v : Value) (h1 : kv_nl ls (i + 1) = true) (h2 : ls[i]? = some (some v)) : ¬ v.category = 2 := by
  have h1 : kv_wd ls[i]? = true := h1
  rw [h2] at h1
  cases v <;> simp [kv_wd] at h1 <;> simp [Value.category]
theorem kv_ll_set {w : KW} {ls : List (Option Value)} {i : Nat} {v : Value} (hn : kv_nl ls i = true) (hl : i < ls.length) :
    ∀ q ∈ kv_ll w 0 (ls.set i (some v)), q ∈ (i, kv_co w v) :: (kv_ll w 0 ls).filter (fun q => !(q.1 == i) && !(q.1 + 1 == i && q.2.category == 2)) := by
  intro q hq
  obtain ⟨k, x, h1, h2⟩ := (kv_ll_mem _ 0 q).mp hq
  rw [Nat.zero_add] at h2
  subst h2
  by_cases hk : k = i
  · subst hk
    rw [List.getElem?_set_self hl] at h1
    cases h1
    exact List.mem_cons_self
  · rw [List.getElem?_set_ne (Ne.symm hk)] at h1
    refine List.mem_cons_of_mem _ (List.mem_filter.mpr ⟨(kv_ll_mem ls 0 _).mpr ⟨k, x, h1, by rw [Nat.zero_add]⟩, ?_⟩)
    simp only [Bool.and_eq_true, Bool.not_eq_true', beq_eq_false_iff_ne, ne_eq, Bool.and_eq_false_iff]
    refine ⟨hk, ?_⟩
    by_cases hk2 : k + 1 = i
    · subst hk2
      exact Or.inr (by rw [kv_co_cat]; exact kv_nl_spec ls k x hn h1)
    · exact Or.inl hk2
theorem kv_ll_setL {w : KW} {ls : List (Option Value)} {i : Nat} {v : Value} (hn : kv_nl ls i = true) (hl : i + 1 < ls.length) :
    ∀ q ∈ kv_ll w 0 ((ls.set i (some v)).set (i + 1) none), q ∈ (i, kv_co w v) :: (kv_ll w 0 ls).filter (fun q => !(q.1 == i) && (!(q.1 == i + 1) && !(q.1 + 1 == i && q.2.category == 2))) := by
  intro q hq
  obtain ⟨k, x, h1, h2⟩ := (kv_ll_mem _ 0 q).mp hq
  rw [Nat.zero_add] at h2
  subst h2
  by_cases hk1 : k = i + 1
  · subst hk1
    rw [List.getElem?_set_self (by simpa using hl)] at h1
    cases h1
  rw [List.getElem?_set_ne (Ne.symm hk1)] at h1
  by_cases hk : k = i
  · subst hk
    rw [List.getElem?_set_self (by omega)] at h1
    cases h1
    exact List.mem_cons_self
  · rw [List.getElem?_set_ne (Ne.symm hk)] at h1
    refine List.mem_cons_of_mem _ (List.mem_filter.mpr ⟨(kv_ll_mem ls 0 _).mpr ⟨k, x, h1, by rw [Nat.zero_add]⟩, ?_⟩)
    simp only [Bool.and_eq_true, Bool.not_eq_true', beq_eq_false_iff_ne, ne_eq, Bool.and_eq_false_iff]
    refine ⟨hk, hk1, ?_⟩
    by_cases hk2 : k + 1 = i
    · subst hk2
      exact Or.inr (by rw [kv_co_cat]; exact kv_nl_spec ls k x hn h1)
    · exact Or.inl hk2
theorem kv_hs {arr : Array Slot} {n : Nat} {a b : List (Nat × Value)} (h : ∀ q ∈ b, q ∈ a) (L : lv_has arr n a) : lv_has arr n b := ⟨L.1, L.2.1, fun q hq => L.2.2 q (h q hq)⟩
theorem kv_istore_n {w : KW} {l : Launch} {mm : KM} {dd nc ns pc : Nat} {ls : List (Option Value)} {rest : List Value} {u : KMem} {Q : Option Value → KMem → Prop} {j : Fin 4} {x : Int32} {ls2 : List (Option Value)} (d : decode mm.2.1 pc = .ok (.istore_n j, 1)) (hn : kv_nl ls (j : Nat) = true) (hi : Nat.blt ((j : Nat)) ls.length = true) (hm : Nat.blt ((j : Nat)) mm.2.2.1 = true) (hs : ls.set (j : Nat) (some (.int x)) = ls2) (k : KV w l mm dd nc ns (pc + 1) ls2 rest u Q) : KV w l mm dd nc ns pc ls ((.int x) :: rest) u Q := by
  intro p e R s m args below meth c H locs cells slots mc ms arr F S M L c1 c2
  subst hs
  exact lv_istore_n F.1 F.2.1 d rfl L (Nat.le_of_ble_eq_true hm) rfl (fun arr2 L2 => k p e R s m args below meth c H locs cells slots mc ms arr2 F S M (kv_hs (kv_ll_set hn (Nat.le_of_ble_eq_true hi)) L2) c1 c2)
theorem kv_istore {w : KW} {l : Launch} {mm : KM} {dd nc ns pc : Nat} {ls : List (Option Value)} {rest : List Value} {u : KMem} {Q : Option Value → KMem → Prop} {i : Nat} {x : Int32} {ls2 : List (Option Value)} (d : decode mm.2.1 pc = .ok (.istore i, 2)) (hn : kv_nl ls i = true) (hi : Nat.blt (i) ls.length = true) (hm : Nat.blt (i) mm.2.2.1 = true) (hs : ls.set i (some (.int x)) = ls2) (k : KV w l mm dd nc ns (pc + 2) ls2 rest u Q) : KV w l mm dd nc ns pc ls ((.int x) :: rest) u Q := by
  intro p e R s m args below meth c H locs cells slots mc ms arr F S M L c1 c2
  subst hs
  exact lv_istore F.1 F.2.1 d L (Nat.le_of_ble_eq_true hm) rfl (fun arr2 L2 => k p e R s m args below meth c H locs cells slots mc ms arr2 F S M (kv_hs (kv_ll_set hn (Nat.le_of_ble_eq_true hi)) L2) c1 c2)
theorem kv_astore_n {w : KW} {l : Launch} {mm : KM} {dd nc ns pc : Nat} {ls : List (Option Value)} {rest : List Value} {u : KMem} {Q : Option Value → KMem → Prop} {j : Fin 4} {x : Nat} {ls2 : List (Option Value)} (d : decode mm.2.1 pc = .ok (.astore_n j, 1)) (hn : kv_nl ls (j : Nat) = true) (hi : Nat.blt ((j : Nat)) ls.length = true) (hm : Nat.blt ((j : Nat)) mm.2.2.1 = true) (hs : ls.set (j : Nat) (some (.ref x)) = ls2) (k : KV w l mm dd nc ns (pc + 1) ls2 rest u Q) : KV w l mm dd nc ns pc ls ((.ref x) :: rest) u Q := by
  intro p e R s m args below meth c H locs cells slots mc ms arr F S M L c1 c2
  subst hs
  exact lv_astore_n F.1 F.2.1 d rfl L (Nat.le_of_ble_eq_true hm) rfl (fun arr2 L2 => k p e R s m args below meth c H locs cells slots mc ms arr2 F S M (kv_hs (kv_ll_set hn (Nat.le_of_ble_eq_true hi)) L2) c1 c2)
theorem kv_astore {w : KW} {l : Launch} {mm : KM} {dd nc ns pc : Nat} {ls : List (Option Value)} {rest : List Value} {u : KMem} {Q : Option Value → KMem → Prop} {i : Nat} {x : Nat} {ls2 : List (Option Value)} (d : decode mm.2.1 pc = .ok (.astore i, 2)) (hn : kv_nl ls i = true) (hi : Nat.blt (i) ls.length = true) (hm : Nat.blt (i) mm.2.2.1 = true) (hs : ls.set i (some (.ref x)) = ls2) (k : KV w l mm dd nc ns (pc + 2) ls2 rest u Q) : KV w l mm dd nc ns pc ls ((.ref x) :: rest) u Q := by
  intro p e R s m args below meth c H locs cells slots mc ms arr F S M L c1 c2
  subst hs
  exact lv_astore F.1 F.2.1 d L (Nat.le_of_ble_eq_true hm) rfl (fun arr2 L2 => k p e R s m args below meth c H locs cells slots mc ms arr2 F S M (kv_hs (kv_ll_set hn (Nat.le_of_ble_eq_true hi)) L2) c1 c2)
theorem kv_lstore_n {w : KW} {l : Launch} {mm : KM} {dd nc ns pc : Nat} {ls : List (Option Value)} {rest : List Value} {u : KMem} {Q : Option Value → KMem → Prop} {j : Fin 4} {x : Int64} {ls2 : List (Option Value)} (d : decode mm.2.1 pc = .ok (.lstore_n j, 1)) (hn : kv_nl ls (j : Nat) = true) (hi : Nat.blt ((j : Nat) + 1) ls.length = true) (hm : Nat.blt ((j : Nat) + 1) mm.2.2.1 = true) (hs : (ls.set (j : Nat) (some (.long x))).set ((j : Nat) + 1) none = ls2) (k : KV w l mm dd nc ns (pc + 1) ls2 rest u Q) : KV w l mm dd nc ns pc ls ((.long x) :: rest) u Q := by
  intro p e R s m args below meth c H locs cells slots mc ms arr F S M L c1 c2
  subst hs
  exact lv_lstore_n F.1 F.2.1 d rfl L (Nat.le_of_ble_eq_true hm) rfl (fun arr2 L2 => k p e R s m args below meth c H locs cells slots mc ms arr2 F S M (kv_hs (kv_ll_setL hn (Nat.le_of_ble_eq_true hi)) L2) c1 c2)
theorem kv_lstore {w : KW} {l : Launch} {mm : KM} {dd nc ns pc : Nat} {ls : List (Option Value)} {rest : List Value} {u : KMem} {Q : Option Value → KMem → Prop} {i : Nat} {x : Int64} {ls2 : List (Option Value)} (d : decode mm.2.1 pc = .ok (.lstore i, 2)) (hn : kv_nl ls i = true) (hi : Nat.blt (i + 1) ls.length = true) (hm : Nat.blt (i + 1) mm.2.2.1 = true) (hs : (ls.set i (some (.long x))).set (i + 1) none = ls2) (k : KV w l mm dd nc ns (pc + 2) ls2 rest u Q) : KV w l mm dd nc ns pc ls ((.long x) :: rest) u Q := by
  intro p e R s m args below meth c H locs cells slots mc ms arr F S M L c1 c2
  subst hs
  exact lv_lstore F.1 F.2.1 d L (Nat.le_of_ble_eq_true hm) rfl (fun arr2 L2 => k p e R s m args below meth c H locs cells slots mc ms arr2 F S M (kv_hs (kv_ll_setL hn (Nat.le_of_ble_eq_true hi)) L2) c1 c2)
theorem kv_iinc {w : KW} {l : Launch} {mm : KM} {dd nc ns pc : Nat} {ls : List (Option Value)} {rest : List Value} {u : KMem} {Q : Option Value → KMem → Prop} {i : Nat} {n : Int} {x : Int32} {ls2 : List (Option Value)} (d : decode mm.2.1 pc = .ok (.iinc i n, 3)) (y : Int32) (h : ls[i]? = some (some (.int x))) (hy : x + Int32.ofInt n = y) (hn : kv_nl ls i = true) (hi : Nat.blt i ls.length = true) (hm : Nat.blt i mm.2.2.1 = true) (hs : ls.set i (some (.int y)) = ls2) (k : KV w l mm dd nc ns (pc + 3) ls2 rest u Q) : KV w l mm dd nc ns pc ls rest u Q := by
  intro p e R s m args below meth c H locs cells slots mc ms arr F S M L c1 c2
  subst hs
  obtain ⟨kk, hk⟩ := List.getElem?_of_mem ((kv_ll_mem (w := w) ls 0 (i, .int x)).mpr ⟨i, _, h, by rw [Nat.zero_add]; rfl⟩)
  exact lv_iinc F.1 F.2.1 d L hk hy (Nat.le_of_ble_eq_true hm) rfl (fun arr2 L2 => k p e R s m args below meth c H locs cells slots mc ms arr2 F S M (kv_hs (kv_ll_set hn (Nat.le_of_ble_eq_true hi)) L2) c1 c2)
theorem kv_iadd {w : KW} {l : Launch} {mm : KM} {dd nc ns pc : Nat} {ls : List (Option Value)} {rest : List Value} {u : KMem} {Q : Option Value → KMem → Prop} {x y : Int32} (d : decode mm.2.1 pc = .ok (.iadd, 1)) (k : KV w l mm dd nc ns (pc + 1) ls (.int (x + y) :: rest) u Q) : KV w l mm dd nc ns pc ls (.int y :: .int x :: rest) u Q := by
  intro p e R s m args below meth c H locs cells slots mc ms arr F S M L c1 c2
  exact lv_iadd F.1 F.2.1 d (k p e R s m args below meth c H locs cells slots mc ms arr F S M L c1 c2)
theorem kv_isub {w : KW} {l : Launch} {mm : KM} {dd nc ns pc : Nat} {ls : List (Option Value)} {rest : List Value} {u : KMem} {Q : Option Value → KMem → Prop} {x y : Int32} (d : decode mm.2.1 pc = .ok (.isub, 1)) (k : KV w l mm dd nc ns (pc + 1) ls (.int (x - y) :: rest) u Q) : KV w l mm dd nc ns pc ls (.int y :: .int x :: rest) u Q := by
  intro p e R s m args below meth c H locs cells slots mc ms arr F S M L c1 c2
  exact lv_isub F.1 F.2.1 d (k p e R s m args below meth c H locs cells slots mc ms arr F S M L c1 c2)
theorem kv_imul {w : KW} {l : Launch} {mm : KM} {dd nc ns pc : Nat} {ls : List (Option Value)} {rest : List Value} {u : KMem} {Q : Option Value → KMem → Prop} {x y : Int32} (d : decode mm.2.1 pc = .ok (.imul, 1)) (k : KV w l mm dd nc ns (pc + 1) ls (.int (x * y) :: rest) u Q) : KV w l mm dd nc ns pc ls (.int y :: .int x :: rest) u Q := by
  intro p e R s m args below meth c H locs cells slots mc ms arr F S M L c1 c2
  exact lv_imul F.1 F.2.1 d (k p e R s m args below meth c H locs cells slots mc ms arr F S M L c1 c2)
theorem kv_iand {w : KW} {l : Launch} {mm : KM} {dd nc ns pc : Nat} {ls : List (Option Value)} {rest : List Value} {u : KMem} {Q : Option Value → KMem → Prop} {x y : Int32} (d : decode mm.2.1 pc = .ok (.iand, 1)) (k : KV w l mm dd nc ns (pc + 1) ls (.int (x &&& y) :: rest) u Q) : KV w l mm dd nc ns pc ls (.int y :: .int x :: rest) u Q := by
  intro p e R s m args below meth c H locs cells slots mc ms arr F S M L c1 c2
  exact lv_iand F.1 F.2.1 d (k p e R s m args below meth c H locs cells slots mc ms arr F S M L c1 c2)
theorem kv_ior {w : KW} {l : Launch} {mm : KM} {dd nc ns pc : Nat} {ls : List (Option Value)} {rest : List Value} {u : KMem} {Q : Option Value → KMem → Prop} {x y : Int32} (d : decode mm.2.1 pc = .ok (.ior, 1)) (k : KV w l mm dd nc ns (pc + 1) ls (.int (x ||| y) :: rest) u Q) : KV w l mm dd nc ns pc ls (.int y :: .int x :: rest) u Q := by
  intro p e R s m args below meth c H locs cells slots mc ms arr F S M L c1 c2
  exact lv_ior F.1 F.2.1 d (k p e R s m args below meth c H locs cells slots mc ms arr F S M L c1 c2)
theorem kv_ixor {w : KW} {l : Launch} {mm : KM} {dd nc ns pc : Nat} {ls : List (Option Value)} {rest : List Value} {u : KMem} {Q : Option Value → KMem → Prop} {x y : Int32} (d : decode mm.2.1 pc = .ok (.ixor, 1)) (k : KV w l mm dd nc ns (pc + 1) ls (.int (x ^^^ y) :: rest) u Q) : KV w l mm dd nc ns pc ls (.int y :: .int x :: rest) u Q := by
  intro p e R s m args below meth c H locs cells slots mc ms arr F S M L c1 c2
  exact lv_ixor F.1 F.2.1 d (k p e R s m args below meth c H locs cells slots mc ms arr F S M L c1 c2)
theorem kv_ishl {w : KW} {l : Launch} {mm : KM} {dd nc ns pc : Nat} {ls : List (Option Value)} {rest : List Value} {u : KMem} {Q : Option Value → KMem → Prop} {x y : Int32} (d : decode mm.2.1 pc = .ok (.ishl, 1)) (k : KV w l mm dd nc ns (pc + 1) ls (.int (x <<< (y &&& 31)) :: rest) u Q) : KV w l mm dd nc ns pc ls (.int y :: .int x :: rest) u Q := by
  intro p e R s m args below meth c H locs cells slots mc ms arr F S M L c1 c2
  exact lv_ishl F.1 F.2.1 d (k p e R s m args below meth c H locs cells slots mc ms arr F S M L c1 c2)
theorem kv_ishr {w : KW} {l : Launch} {mm : KM} {dd nc ns pc : Nat} {ls : List (Option Value)} {rest : List Value} {u : KMem} {Q : Option Value → KMem → Prop} {x y : Int32} (d : decode mm.2.1 pc = .ok (.ishr, 1)) (k : KV w l mm dd nc ns (pc + 1) ls (.int (x >>> (y &&& 31)) :: rest) u Q) : KV w l mm dd nc ns pc ls (.int y :: .int x :: rest) u Q := by
  intro p e R s m args below meth c H locs cells slots mc ms arr F S M L c1 c2
  exact lv_ishr F.1 F.2.1 d (k p e R s m args below meth c H locs cells slots mc ms arr F S M L c1 c2)
theorem kv_idiv {w : KW} {l : Launch} {mm : KM} {dd nc ns pc : Nat} {ls : List (Option Value)} {rest : List Value} {u : KMem} {Q : Option Value → KMem → Prop} {x y : Int32} (d : decode mm.2.1 pc = .ok (.idiv, 1)) (h : ¬ y = 0) (k : KV w l mm dd nc ns (pc + 1) ls (.int (x / y) :: rest) u Q) : KV w l mm dd nc ns pc ls (.int y :: .int x :: rest) u Q := by
  intro p e R s m args below meth c H locs cells slots mc ms arr F S M L c1 c2
  exact lv_idiv F.1 F.2.1 d h (k p e R s m args below meth c H locs cells slots mc ms arr F S M L c1 c2)
theorem kv_irem {w : KW} {l : Launch} {mm : KM} {dd nc ns pc : Nat} {ls : List (Option Value)} {rest : List Value} {u : KMem} {Q : Option Value → KMem → Prop} {x y : Int32} (d : decode mm.2.1 pc = .ok (.irem, 1)) (h : ¬ y = 0) (k : KV w l mm dd nc ns (pc + 1) ls (.int (x - x / y * y) :: rest) u Q) : KV w l mm dd nc ns pc ls (.int y :: .int x :: rest) u Q := by
  intro p e R s m args below meth c H locs cells slots mc ms arr F S M L c1 c2
  exact lv_irem F.1 F.2.1 d h (k p e R s m args below meth c H locs cells slots mc ms arr F S M L c1 c2)
theorem kv_ineg {w : KW} {l : Launch} {mm : KM} {dd nc ns pc : Nat} {ls : List (Option Value)} {rest : List Value} {u : KMem} {Q : Option Value → KMem → Prop} {x : Int32} (d : decode mm.2.1 pc = .ok (.ineg, 1)) (k : KV w l mm dd nc ns (pc + 1) ls (.int (-x) :: rest) u Q) : KV w l mm dd nc ns pc ls (.int x :: rest) u Q := by
  intro p e R s m args below meth c H locs cells slots mc ms arr F S M L c1 c2
  exact lv_ineg F.1 F.2.1 d (k p e R s m args below meth c H locs cells slots mc ms arr F S M L c1 c2)
theorem kv_iushr {w : KW} {l : Launch} {mm : KM} {dd nc ns pc : Nat} {ls : List (Option Value)} {rest : List Value} {u : KMem} {Q : Option Value → KMem → Prop} {x y : Int32} (d : decode mm.2.1 pc = .ok (.iushr, 1)) (k : KV w l mm dd nc ns (pc + 1) ls (.int (x.toUInt32 >>> (y.toUInt32 &&& Int32.toUInt32 31)).toInt32 :: rest) u Q) : KV w l mm dd nc ns pc ls (.int y :: .int x :: rest) u Q := by
  intro p e R s m args below meth c H locs cells slots mc ms arr F S M L c1 c2
  exact lv_iushr F.1 F.2.1 d rfl (k p e R s m args below meth c H locs cells slots mc ms arr F S M L c1 c2)
theorem kv_ladd {w : KW} {l : Launch} {mm : KM} {dd nc ns pc : Nat} {ls : List (Option Value)} {rest : List Value} {u : KMem} {Q : Option Value → KMem → Prop} {x y : Int64} (d : decode mm.2.1 pc = .ok (.ladd, 1)) (k : KV w l mm dd nc ns (pc + 1) ls (.long (x + y) :: rest) u Q) : KV w l mm dd nc ns pc ls (.long y :: .long x :: rest) u Q := by
  intro p e R s m args below meth c H locs cells slots mc ms arr F S M L c1 c2
  exact lv_ladd F.1 F.2.1 d (k p e R s m args below meth c H locs cells slots mc ms arr F S M L c1 c2)
theorem kv_lsub {w : KW} {l : Launch} {mm : KM} {dd nc ns pc : Nat} {ls : List (Option Value)} {rest : List Value} {u : KMem} {Q : Option Value → KMem → Prop} {x y : Int64} (d : decode mm.2.1 pc = .ok (.lsub, 1)) (k : KV w l mm dd nc ns (pc + 1) ls (.long (x - y) :: rest) u Q) : KV w l mm dd nc ns pc ls (.long y :: .long x :: rest) u Q := by
  intro p e R s m args below meth c H locs cells slots mc ms arr F S M L c1 c2
  exact lv_lsub F.1 F.2.1 d (k p e R s m args below meth c H locs cells slots mc ms arr F S M L c1 c2)
theorem kv_lmul {w : KW} {l : Launch} {mm : KM} {dd nc ns pc : Nat} {ls : List (Option Value)} {rest : List Value} {u : KMem} {Q : Option Value → KMem → Prop} {x y : Int64} (d : decode mm.2.1 pc = .ok (.lmul, 1)) (k : KV w l mm dd nc ns (pc + 1) ls (.long (x * y) :: rest) u Q) : KV w l mm dd nc ns pc ls (.long y :: .long x :: rest) u Q := by
  intro p e R s m args below meth c H locs cells slots mc ms arr F S M L c1 c2
  exact lv_lmul F.1 F.2.1 d (k p e R s m args below meth c H locs cells slots mc ms arr F S M L c1 c2)
theorem kv_land {w : KW} {l : Launch} {mm : KM} {dd nc ns pc : Nat} {ls : List (Option Value)} {rest : List Value} {u : KMem} {Q : Option Value → KMem → Prop} {x y : Int64} (d : decode mm.2.1 pc = .ok (.land, 1)) (k : KV w l mm dd nc ns (pc + 1) ls (.long (x &&& y) :: rest) u Q) : KV w l mm dd nc ns pc ls (.long y :: .long x :: rest) u Q := by
  intro p e R s m args below meth c H locs cells slots mc ms arr F S M L c1 c2
  exact lv_land F.1 F.2.1 d (k p e R s m args below meth c H locs cells slots mc ms arr F S M L c1 c2)
theorem kv_lor {w : KW} {l : Launch} {mm : KM} {dd nc ns pc : Nat} {ls : List (Option Value)} {rest : List Value} {u : KMem} {Q : Option Value → KMem → Prop} {x y : Int64} (d : decode mm.2.1 pc = .ok (.lor, 1)) (k : KV w l mm dd nc ns (pc + 1) ls (.long (x ||| y) :: rest) u Q) : KV w l mm dd nc ns pc ls (.long y :: .long x :: rest) u Q := by
  intro p e R s m args below meth c H locs cells slots mc ms arr F S M L c1 c2
  exact lv_lor F.1 F.2.1 d (k p e R s m args below meth c H locs cells slots mc ms arr F S M L c1 c2)
theorem kv_ldiv {w : KW} {l : Launch} {mm : KM} {dd nc ns pc : Nat} {ls : List (Option Value)} {rest : List Value} {u : KMem} {Q : Option Value → KMem → Prop} {x y : Int64} (d : decode mm.2.1 pc = .ok (.ldiv, 1)) (h : ¬ y = 0) (k : KV w l mm dd nc ns (pc + 1) ls (.long (x / y) :: rest) u Q) : KV w l mm dd nc ns pc ls (.long y :: .long x :: rest) u Q := by
  intro p e R s m args below meth c H locs cells slots mc ms arr F S M L c1 c2
  exact lv_ldiv F.1 F.2.1 d h (k p e R s m args below meth c H locs cells slots mc ms arr F S M L c1 c2)
theorem kv_lneg {w : KW} {l : Launch} {mm : KM} {dd nc ns pc : Nat} {ls : List (Option Value)} {rest : List Value} {u : KMem} {Q : Option Value → KMem → Prop} {x : Int64} (d : decode mm.2.1 pc = .ok (.lneg, 1)) (k : KV w l mm dd nc ns (pc + 1) ls (.long (-x) :: rest) u Q) : KV w l mm dd nc ns pc ls (.long x :: rest) u Q := by
  intro p e R s m args below meth c H locs cells slots mc ms arr F S M L c1 c2
  exact lv_lneg F.1 F.2.1 d (k p e R s m args below meth c H locs cells slots mc ms arr F S M L c1 c2)
theorem kv_lshl {w : KW} {l : Launch} {mm : KM} {dd nc ns pc : Nat} {ls : List (Option Value)} {rest : List Value} {u : KMem} {Q : Option Value → KMem → Prop} {x : Int64} {y : Int32} (d : decode mm.2.1 pc = .ok (.lshl, 1)) (k : KV w l mm dd nc ns (pc + 1) ls (.long (x <<< (y.toInt64 &&& 63)) :: rest) u Q) : KV w l mm dd nc ns pc ls (.int y :: .long x :: rest) u Q := by
  intro p e R s m args below meth c H locs cells slots mc ms arr F S M L c1 c2
  exact lv_lshl F.1 F.2.1 d rfl (k p e R s m args below meth c H locs cells slots mc ms arr F S M L c1 c2)
theorem kv_lshr {w : KW} {l : Launch} {mm : KM} {dd nc ns pc : Nat} {ls : List (Option Value)} {rest : List Value} {u : KMem} {Q : Option Value → KMem → Prop} {x : Int64} {y : Int32} (d : decode mm.2.1 pc = .ok (.lshr, 1)) (k : KV w l mm dd nc ns (pc + 1) ls (.long (x >>> (y.toInt64 &&& 63)) :: rest) u Q) : KV w l mm dd nc ns pc ls (.int y :: .long x :: rest) u Q := by
  intro p e R s m args below meth c H locs cells slots mc ms arr F S M L c1 c2
  exact lv_lshr F.1 F.2.1 d rfl (k p e R s m args below meth c H locs cells slots mc ms arr F S M L c1 c2)
theorem kv_i2l {w : KW} {l : Launch} {mm : KM} {dd nc ns pc : Nat} {ls : List (Option Value)} {rest : List Value} {u : KMem} {Q : Option Value → KMem → Prop} {x : Int32} (d : decode mm.2.1 pc = .ok (.i2l, 1)) (k : KV w l mm dd nc ns (pc + 1) ls (.long x.toInt64 :: rest) u Q) : KV w l mm dd nc ns pc ls (.int x :: rest) u Q := by
  intro p e R s m args below meth c H locs cells slots mc ms arr F S M L c1 c2
  exact lv_i2l F.1 F.2.1 d rfl (k p e R s m args below meth c H locs cells slots mc ms arr F S M L c1 c2)
theorem kv_l2i {w : KW} {l : Launch} {mm : KM} {dd nc ns pc : Nat} {ls : List (Option Value)} {rest : List Value} {u : KMem} {Q : Option Value → KMem → Prop} {x : Int64} (d : decode mm.2.1 pc = .ok (.l2i, 1)) (k : KV w l mm dd nc ns (pc + 1) ls (.int x.toInt32 :: rest) u Q) : KV w l mm dd nc ns pc ls (.long x :: rest) u Q := by
  intro p e R s m args below meth c H locs cells slots mc ms arr F S M L c1 c2
  exact lv_l2i F.1 F.2.1 d rfl (k p e R s m args below meth c H locs cells slots mc ms arr F S M L c1 c2)
theorem kv_i2b {w : KW} {l : Launch} {mm : KM} {dd nc ns pc : Nat} {ls : List (Option Value)} {rest : List Value} {u : KMem} {Q : Option Value → KMem → Prop} {x : Int32} (d : decode mm.2.1 pc = .ok (.i2b, 1)) (k : KV w l mm dd nc ns (pc + 1) ls (.int x.toInt8.toInt32 :: rest) u Q) : KV w l mm dd nc ns pc ls (.int x :: rest) u Q := by
  intro p e R s m args below meth c H locs cells slots mc ms arr F S M L c1 c2
  exact lv_i2b F.1 F.2.1 d rfl (k p e R s m args below meth c H locs cells slots mc ms arr F S M L c1 c2)
theorem kv_i2s {w : KW} {l : Launch} {mm : KM} {dd nc ns pc : Nat} {ls : List (Option Value)} {rest : List Value} {u : KMem} {Q : Option Value → KMem → Prop} {x : Int32} (d : decode mm.2.1 pc = .ok (.i2s, 1)) (k : KV w l mm dd nc ns (pc + 1) ls (.int x.toInt16.toInt32 :: rest) u Q) : KV w l mm dd nc ns pc ls (.int x :: rest) u Q := by
  intro p e R s m args below meth c H locs cells slots mc ms arr F S M L c1 c2
  exact lv_i2s F.1 F.2.1 d rfl (k p e R s m args below meth c H locs cells slots mc ms arr F S M L c1 c2)
theorem kv_i2c {w : KW} {l : Launch} {mm : KM} {dd nc ns pc : Nat} {ls : List (Option Value)} {rest : List Value} {u : KMem} {Q : Option Value → KMem → Prop} {x : Int32} (d : decode mm.2.1 pc = .ok (.i2c, 1)) (k : KV w l mm dd nc ns (pc + 1) ls (.int (x.toUInt32 % 65536).toInt32 :: rest) u Q) : KV w l mm dd nc ns pc ls (.int x :: rest) u Q := by
  intro p e R s m args below meth c H locs cells slots mc ms arr F S M L c1 c2
  exact lv_i2c F.1 F.2.1 d rfl (k p e R s m args below meth c H locs cells slots mc ms arr F S M L c1 c2)
theorem kv_lcmp {w : KW} {l : Launch} {mm : KM} {dd nc ns pc : Nat} {ls : List (Option Value)} {rest : List Value} {u : KMem} {Q : Option Value → KMem → Prop} {x y : Int64} (d : decode mm.2.1 pc = .ok (.lcmp, 1)) (k : KV w l mm dd nc ns (pc + 1) ls (.int (lg_cmp x y) :: rest) u Q) : KV w l mm dd nc ns pc ls (.long y :: .long x :: rest) u Q := by
  intro p e R s m args below meth c H locs cells slots mc ms arr F S M L c1 c2
  exact W.lcmp F.1 F.2.1 d (k p e R s m args below meth c H locs cells slots mc ms arr F S M L c1 c2)
theorem kv_dup {w : KW} {l : Launch} {mm : KM} {dd nc ns pc : Nat} {ls : List (Option Value)} {rest : List Value} {u : KMem} {Q : Option Value → KMem → Prop} {v : Value} (d : decode mm.2.1 pc = .ok (.dup, 1)) (h : v.category = 1) (k : KV w l mm dd nc ns (pc + 1) ls (v :: v :: rest) u Q) : KV w l mm dd nc ns pc ls (v :: rest) u Q := by
  intro p e R s m args below meth c H locs cells slots mc ms arr F S M L c1 c2
  exact lv_dup F.1 F.2.1 d ((kv_co_cat v).trans h) (k p e R s m args below meth c H locs cells slots mc ms arr F S M L c1 c2)
theorem kv_pop {w : KW} {l : Launch} {mm : KM} {dd nc ns pc : Nat} {ls : List (Option Value)} {rest : List Value} {u : KMem} {Q : Option Value → KMem → Prop} {v : Value} (d : decode mm.2.1 pc = .ok (.pop, 1)) (h : v.category = 1) (k : KV w l mm dd nc ns (pc + 1) ls (rest) u Q) : KV w l mm dd nc ns pc ls (v :: rest) u Q := by
  intro p e R s m args below meth c H locs cells slots mc ms arr F S M L c1 c2
  exact lv_pop F.1 F.2.1 d ((kv_co_cat v).trans h) (k p e R s m args below meth c H locs cells slots mc ms arr F S M L c1 c2)
theorem kv_dup2 {w : KW} {l : Launch} {mm : KM} {dd nc ns pc : Nat} {ls : List (Option Value)} {rest : List Value} {u : KMem} {Q : Option Value → KMem → Prop} {v x : Value} (d : decode mm.2.1 pc = .ok (.dup2, 1)) (h : v.category = 1) (h2 : x.category = 1) (k : KV w l mm dd nc ns (pc + 1) ls (v :: x :: v :: x :: rest) u Q) : KV w l mm dd nc ns pc ls (v :: x :: rest) u Q := by
  intro p e R s m args below meth c H locs cells slots mc ms arr F S M L c1 c2
  exact lv_dup2_11 F.1 F.2.1 d ((kv_co_cat v).trans h) ((kv_co_cat x).trans h2) (k p e R s m args below meth c H locs cells slots mc ms arr F S M L c1 c2)
theorem kv_if_eq {w : KW} {l : Launch} {mm : KM} {dd nc ns pc : Nat} {ls : List (Option Value)} {rest : List Value} {u : KMem} {Q : Option Value → KMem → Prop} {x : Int32} {off : Int} (d : decode mm.2.1 pc = .ok (.ifCond .eq off, 3)) (tgt : Nat) (ht : (pc : Int) + off = (tgt : Int)) (kt : x = 0 → KV w l mm dd nc ns tgt ls rest u Q) (kf : ¬ (x = 0) → KV w l mm dd nc ns (pc + 3) ls rest u Q) : KV w l mm dd nc ns pc ls (.int x :: rest) u Q := by
  intro p e R s m args below meth c H locs cells slots mc ms arr F S M L c1 c2
  exact lv_if_eq F.1 F.2.1 d ht (fun h => kt h p e R s m args below meth c H locs cells slots mc ms arr F S M L c1 c2) (fun h => kf h p e R s m args below meth c H locs cells slots mc ms arr F S M L c1 c2)
theorem kv_if_ne {w : KW} {l : Launch} {mm : KM} {dd nc ns pc : Nat} {ls : List (Option Value)} {rest : List Value} {u : KMem} {Q : Option Value → KMem → Prop} {x : Int32} {off : Int} (d : decode mm.2.1 pc = .ok (.ifCond .ne off, 3)) (tgt : Nat) (ht : (pc : Int) + off = (tgt : Int)) (kt : ¬ x = 0 → KV w l mm dd nc ns tgt ls rest u Q) (kf : x = 0 → KV w l mm dd nc ns (pc + 3) ls rest u Q) : KV w l mm dd nc ns pc ls (.int x :: rest) u Q := by
  intro p e R s m args below meth c H locs cells slots mc ms arr F S M L c1 c2
  exact lv_if_ne F.1 F.2.1 d ht (fun h => kt h p e R s m args below meth c H locs cells slots mc ms arr F S M L c1 c2) (fun h => kf h p e R s m args below meth c H locs cells slots mc ms arr F S M L c1 c2)
theorem kv_if_lt {w : KW} {l : Launch} {mm : KM} {dd nc ns pc : Nat} {ls : List (Option Value)} {rest : List Value} {u : KMem} {Q : Option Value → KMem → Prop} {x : Int32} {off : Int} (d : decode mm.2.1 pc = .ok (.ifCond .lt off, 3)) (tgt : Nat) (ht : (pc : Int) + off = (tgt : Int)) (kt : x < 0 → KV w l mm dd nc ns tgt ls rest u Q) (kf : ¬ (x < 0) → KV w l mm dd nc ns (pc + 3) ls rest u Q) : KV w l mm dd nc ns pc ls (.int x :: rest) u Q := by
  intro p e R s m args below meth c H locs cells slots mc ms arr F S M L c1 c2
  exact lv_if_lt F.1 F.2.1 d ht (fun h => kt h p e R s m args below meth c H locs cells slots mc ms arr F S M L c1 c2) (fun h => kf h p e R s m args below meth c H locs cells slots mc ms arr F S M L c1 c2)
theorem kv_if_ge {w : KW} {l : Launch} {mm : KM} {dd nc ns pc : Nat} {ls : List (Option Value)} {rest : List Value} {u : KMem} {Q : Option Value → KMem → Prop} {x : Int32} {off : Int} (d : decode mm.2.1 pc = .ok (.ifCond .ge off, 3)) (tgt : Nat) (ht : (pc : Int) + off = (tgt : Int)) (kt : 0 ≤ x → KV w l mm dd nc ns tgt ls rest u Q) (kf : ¬ (0 ≤ x) → KV w l mm dd nc ns (pc + 3) ls rest u Q) : KV w l mm dd nc ns pc ls (.int x :: rest) u Q := by
  intro p e R s m args below meth c H locs cells slots mc ms arr F S M L c1 c2
  exact lv_if_ge F.1 F.2.1 d ht (fun h => kt h p e R s m args below meth c H locs cells slots mc ms arr F S M L c1 c2) (fun h => kf h p e R s m args below meth c H locs cells slots mc ms arr F S M L c1 c2)
theorem kv_if_gt {w : KW} {l : Launch} {mm : KM} {dd nc ns pc : Nat} {ls : List (Option Value)} {rest : List Value} {u : KMem} {Q : Option Value → KMem → Prop} {x : Int32} {off : Int} (d : decode mm.2.1 pc = .ok (.ifCond .gt off, 3)) (tgt : Nat) (ht : (pc : Int) + off = (tgt : Int)) (kt : 0 < x → KV w l mm dd nc ns tgt ls rest u Q) (kf : ¬ (0 < x) → KV w l mm dd nc ns (pc + 3) ls rest u Q) : KV w l mm dd nc ns pc ls (.int x :: rest) u Q := by
  intro p e R s m args below meth c H locs cells slots mc ms arr F S M L c1 c2
  exact lv_if_gt F.1 F.2.1 d ht (fun h => kt h p e R s m args below meth c H locs cells slots mc ms arr F S M L c1 c2) (fun h => kf h p e R s m args below meth c H locs cells slots mc ms arr F S M L c1 c2)
theorem kv_if_le {w : KW} {l : Launch} {mm : KM} {dd nc ns pc : Nat} {ls : List (Option Value)} {rest : List Value} {u : KMem} {Q : Option Value → KMem → Prop} {x : Int32} {off : Int} (d : decode mm.2.1 pc = .ok (.ifCond .le off, 3)) (tgt : Nat) (ht : (pc : Int) + off = (tgt : Int)) (kt : x ≤ 0 → KV w l mm dd nc ns tgt ls rest u Q) (kf : ¬ (x ≤ 0) → KV w l mm dd nc ns (pc + 3) ls rest u Q) : KV w l mm dd nc ns pc ls (.int x :: rest) u Q := by
  intro p e R s m args below meth c H locs cells slots mc ms arr F S M L c1 c2
  exact lv_if_le F.1 F.2.1 d ht (fun h => kt h p e R s m args below meth c H locs cells slots mc ms arr F S M L c1 c2) (fun h => kf h p e R s m args below meth c H locs cells slots mc ms arr F S M L c1 c2)
theorem kv_icmp_eq {w : KW} {l : Launch} {mm : KM} {dd nc ns pc : Nat} {ls : List (Option Value)} {rest : List Value} {u : KMem} {Q : Option Value → KMem → Prop} {x y : Int32} {off : Int} (d : decode mm.2.1 pc = .ok (.if_icmp .eq off, 3)) (tgt : Nat) (ht : (pc : Int) + off = (tgt : Int)) (kt : x = y → KV w l mm dd nc ns tgt ls rest u Q) (kf : ¬ (x = y) → KV w l mm dd nc ns (pc + 3) ls rest u Q) : KV w l mm dd nc ns pc ls (.int y :: .int x :: rest) u Q := by
  intro p e R s m args below meth c H locs cells slots mc ms arr F S M L c1 c2
  exact lv_icmp_eq F.1 F.2.1 d ht (fun h => kt h p e R s m args below meth c H locs cells slots mc ms arr F S M L c1 c2) (fun h => kf h p e R s m args below meth c H locs cells slots mc ms arr F S M L c1 c2)
theorem kv_icmp_ne {w : KW} {l : Launch} {mm : KM} {dd nc ns pc : Nat} {ls : List (Option Value)} {rest : List Value} {u : KMem} {Q : Option Value → KMem → Prop} {x y : Int32} {off : Int} (d : decode mm.2.1 pc = .ok (.if_icmp .ne off, 3)) (tgt : Nat) (ht : (pc : Int) + off = (tgt : Int)) (kt : ¬ x = y → KV w l mm dd nc ns tgt ls rest u Q) (kf : x = y → KV w l mm dd nc ns (pc + 3) ls rest u Q) : KV w l mm dd nc ns pc ls (.int y :: .int x :: rest) u Q := by
  intro p e R s m args below meth c H locs cells slots mc ms arr F S M L c1 c2
  exact lv_icmp_ne F.1 F.2.1 d ht (fun h => kt h p e R s m args below meth c H locs cells slots mc ms arr F S M L c1 c2) (fun h => kf h p e R s m args below meth c H locs cells slots mc ms arr F S M L c1 c2)
theorem kv_icmp_lt {w : KW} {l : Launch} {mm : KM} {dd nc ns pc : Nat} {ls : List (Option Value)} {rest : List Value} {u : KMem} {Q : Option Value → KMem → Prop} {x y : Int32} {off : Int} (d : decode mm.2.1 pc = .ok (.if_icmp .lt off, 3)) (tgt : Nat) (ht : (pc : Int) + off = (tgt : Int)) (kt : x < y → KV w l mm dd nc ns tgt ls rest u Q) (kf : ¬ (x < y) → KV w l mm dd nc ns (pc + 3) ls rest u Q) : KV w l mm dd nc ns pc ls (.int y :: .int x :: rest) u Q := by
  intro p e R s m args below meth c H locs cells slots mc ms arr F S M L c1 c2
  exact lv_icmp_lt F.1 F.2.1 d ht (fun h => kt h p e R s m args below meth c H locs cells slots mc ms arr F S M L c1 c2) (fun h => kf h p e R s m args below meth c H locs cells slots mc ms arr F S M L c1 c2)
theorem kv_icmp_ge {w : KW} {l : Launch} {mm : KM} {dd nc ns pc : Nat} {ls : List (Option Value)} {rest : List Value} {u : KMem} {Q : Option Value → KMem → Prop} {x y : Int32} {off : Int} (d : decode mm.2.1 pc = .ok (.if_icmp .ge off, 3)) (tgt : Nat) (ht : (pc : Int) + off = (tgt : Int)) (kt : y ≤ x → KV w l mm dd nc ns tgt ls rest u Q) (kf : ¬ (y ≤ x) → KV w l mm dd nc ns (pc + 3) ls rest u Q) : KV w l mm dd nc ns pc ls (.int y :: .int x :: rest) u Q := by
  intro p e R s m args below meth c H locs cells slots mc ms arr F S M L c1 c2
  exact lv_icmp_ge F.1 F.2.1 d ht (fun h => kt h p e R s m args below meth c H locs cells slots mc ms arr F S M L c1 c2) (fun h => kf h p e R s m args below meth c H locs cells slots mc ms arr F S M L c1 c2)
theorem kv_icmp_gt {w : KW} {l : Launch} {mm : KM} {dd nc ns pc : Nat} {ls : List (Option Value)} {rest : List Value} {u : KMem} {Q : Option Value → KMem → Prop} {x y : Int32} {off : Int} (d : decode mm.2.1 pc = .ok (.if_icmp .gt off, 3)) (tgt : Nat) (ht : (pc : Int) + off = (tgt : Int)) (kt : y < x → KV w l mm dd nc ns tgt ls rest u Q) (kf : ¬ (y < x) → KV w l mm dd nc ns (pc + 3) ls rest u Q) : KV w l mm dd nc ns pc ls (.int y :: .int x :: rest) u Q := by
  intro p e R s m args below meth c H locs cells slots mc ms arr F S M L c1 c2
  exact lv_icmp_gt F.1 F.2.1 d ht (fun h => kt h p e R s m args below meth c H locs cells slots mc ms arr F S M L c1 c2) (fun h => kf h p e R s m args below meth c H locs cells slots mc ms arr F S M L c1 c2)
theorem kv_icmp_le {w : KW} {l : Launch} {mm : KM} {dd nc ns pc : Nat} {ls : List (Option Value)} {rest : List Value} {u : KMem} {Q : Option Value → KMem → Prop} {x y : Int32} {off : Int} (d : decode mm.2.1 pc = .ok (.if_icmp .le off, 3)) (tgt : Nat) (ht : (pc : Int) + off = (tgt : Int)) (kt : x ≤ y → KV w l mm dd nc ns tgt ls rest u Q) (kf : ¬ (x ≤ y) → KV w l mm dd nc ns (pc + 3) ls rest u Q) : KV w l mm dd nc ns pc ls (.int y :: .int x :: rest) u Q := by
  intro p e R s m args below meth c H locs cells slots mc ms arr F S M L c1 c2
  exact lv_icmp_le F.1 F.2.1 d ht (fun h => kt h p e R s m args below meth c H locs cells slots mc ms arr F S M L c1 c2) (fun h => kf h p e R s m args below meth c H locs cells slots mc ms arr F S M L c1 c2)
theorem kv_goto {w : KW} {l : Launch} {mm : KM} {dd nc ns pc : Nat} {ls : List (Option Value)} {rest : List Value} {u : KMem} {Q : Option Value → KMem → Prop} {off : Int} (d : decode mm.2.1 pc = .ok (.goto off, 3)) (tgt : Nat) (ht : (pc : Int) + off = (tgt : Int)) (k : KV w l mm dd nc ns tgt ls rest u Q) : KV w l mm dd nc ns pc ls rest u Q := by
  intro p e R s m args below meth c H locs cells slots mc ms arr F S M L c1 c2
  exact lv_goto F.1 F.2.1 d ht (k p e R s m args below meth c H locs cells slots mc ms arr F S M L c1 c2)
theorem kv_lookup {w : KW} {l : Launch} {mm : KM} {dd nc ns pc : Nat} {ls : List (Option Value)} {rest : List Value} {u : KMem} {Q : Option Value → KMem → Prop} {dflt : Int} {ps : Array (Int × Int)} {len : Nat} {x : Int32} {off : Int} (d : decode mm.2.1 pc = .ok (.lookupswitch dflt ps, len)) (tgt : Nat) (hp : (ps.toList.zip (ps.toList.drop 1)).all (fun (a, next) => a.1 < next.1) = true) (ho : Op.lookupswitch.offset ps.toList dflt x.toInt = off) (ht : (pc : Int) + off = (tgt : Int)) (k : KV w l mm dd nc ns tgt ls rest u Q) : KV w l mm dd nc ns pc ls (.int x :: rest) u Q := by
  intro p e R s m args below meth c H locs cells slots mc ms arr F S M L c1 c2
  exact lv_lookup F.1 F.2.1 d hp ho ht (k p e R s m args below meth c H locs cells slots mc ms arr F S M L c1 c2)
theorem kv_tableIn {w : KW} {l : Launch} {mm : KM} {dd nc ns pc : Nat} {ls : List (Option Value)} {rest : List Value} {u : KMem} {Q : Option Value → KMem → Prop} {dflt lo hi : Int} {offs : Array Int} {len : Nat} {x : Int32} {off : Int} (d : decode mm.2.1 pc = .ok (.tableswitch dflt lo hi offs, len)) (tgt : Nat) (h1 : ¬ x.toInt < lo) (h2 : ¬ hi < x.toInt) (ho : offs[(x.toInt - lo).toNat]? = some off) (ht : (pc : Int) + off = (tgt : Int)) (k : KV w l mm dd nc ns tgt ls rest u Q) : KV w l mm dd nc ns pc ls (.int x :: rest) u Q := by
  intro p e R s m args below meth c H locs cells slots mc ms arr F S M L c1 c2
  exact lv_tableIn F.1 F.2.1 d h1 h2 ho ht (k p e R s m args below meth c H locs cells slots mc ms arr F S M L c1 c2)
theorem kv_tableOut {w : KW} {l : Launch} {mm : KM} {dd nc ns pc : Nat} {ls : List (Option Value)} {rest : List Value} {u : KMem} {Q : Option Value → KMem → Prop} {dflt lo hi : Int} {offs : Array Int} {len : Nat} {x : Int32} (d : decode mm.2.1 pc = .ok (.tableswitch dflt lo hi offs, len)) (tgt : Nat) (h : x.toInt < lo ∨ hi < x.toInt) (ht : (pc : Int) + dflt = (tgt : Int)) (k : KV w l mm dd nc ns tgt ls rest u Q) : KV w l mm dd nc ns pc ls (.int x :: rest) u Q := by
  intro p e R s m args below meth c H locs cells slots mc ms arr F S M L c1 c2
  exact lv_tableOut F.1 F.2.1 d h ht (k p e R s m args below meth c H locs cells slots mc ms arr F S M L c1 c2)
theorem kv_iret {w : KW} {l : Launch} {mm : KM} {dd nc ns pc : Nat} {ls : List (Option Value)} {u : KMem} {Q : Option Value → KMem → Prop} {x : Int32} (d : decode mm.2.1 pc = .ok (.ireturn, 1)) (hr : mm.2.2.2 = some .int) (h : Q (some (.int x)) u) : KV w l mm dd nc ns pc ls [.int x] u Q := by
  intro p e R s m args below meth c H locs cells slots mc ms arr F S M L c1 c2
  have hq : ∀ t : State, t.heap = H → s.WarmedH t.vm → kv_Qc w Q args s (.returned (some (.int x))) t := fun t ht hW => ⟨⟨some (.int x), u, rfl, h, by rw [ht]; exact M⟩, S.F ht⟩
  exact W.widen (k := mc) (n := ms) (by omega) (by omega) (W.iret F.1 F.2.1 (F.2.2.1.trans hr) hq S.2.2 d F.2.2.2.1)
theorem kv_zret {w : KW} {l : Launch} {mm : KM} {dd nc ns pc : Nat} {ls : List (Option Value)} {u : KMem} {Q : Option Value → KMem → Prop} {x : Int32} {ty : FieldType} (d : decode mm.2.1 pc = .ok (.ireturn, 1)) (hr : mm.2.2.2 = some ty) (hn : narrow ty (.int x) = .int x) (h : Q (some (.int x)) u) : KV w l mm dd nc ns pc ls [.int x] u Q := by
  intro p e R s m args below meth c H locs cells slots mc ms arr F S M L c1 c2
  have hq : ∀ t : State, t.heap = H → s.WarmedH t.vm → kv_Qc w Q args s (.returned (some (.int x))) t := fun t ht hW => ⟨⟨some (.int x), u, rfl, h, by rw [ht]; exact M⟩, S.F ht⟩
  exact W.widen (k := mc) (n := ms) (by omega) (by omega) (W.zret F.1 F.2.1 (F.2.2.1.trans hr) hn hq S.2.2 d F.2.2.2.1)
theorem kv_lret {w : KW} {l : Launch} {mm : KM} {dd nc ns pc : Nat} {ls : List (Option Value)} {u : KMem} {Q : Option Value → KMem → Prop} {x : Int64} (d : decode mm.2.1 pc = .ok (.lreturn, 1)) (hr : mm.2.2.2 = some .long) (h : Q (some (.long x)) u) : KV w l mm dd nc ns pc ls [.long x] u Q := by
  intro p e R s m args below meth c H locs cells slots mc ms arr F S M L c1 c2
  have hq : ∀ t : State, t.heap = H → s.WarmedH t.vm → kv_Qc w Q args s (.returned (some (.long x))) t := fun t ht hW => ⟨⟨some (.long x), u, rfl, h, by rw [ht]; exact M⟩, S.F ht⟩
  exact W.widen (k := mc) (n := ms) (by omega) (by omega) (W.lret F.1 F.2.1 (F.2.2.1.trans hr) hq S.2.2 d F.2.2.2.1)
theorem kv_vret {w : KW} {l : Launch} {mm : KM} {dd nc ns pc : Nat} {ls : List (Option Value)} {u : KMem} {Q : Option Value → KMem → Prop} (d : decode mm.2.1 pc = .ok (.return_, 1)) (hr : mm.2.2.2 = none) (h : Q none u) : KV w l mm dd nc ns pc ls [] u Q := by
  intro p e R s m args below meth c H locs cells slots mc ms arr F S M L c1 c2
  have hq : ∀ t : State, t.heap = H → s.WarmedH t.vm → kv_Qc w Q args s (.returned none) t := fun t ht hW => ⟨⟨none, u, rfl, h, by rw [ht]; exact M⟩, S.F ht⟩
  exact W.widen (k := mc) (n := ms) (by omega) (by omega) (W.vret F.1 F.2.1 (F.2.2.1.trans hr) hq S.2.2 d F.2.2.2.1)
/-- fewer locals known -/
def kv_sub : List (Option Value) → List (Option Value) → Prop
  | [], _ => True
  | none :: t, [] => kv_sub t []
  | none :: t, _ :: r => kv_sub t r
  | some v :: t, x :: r => x = some v ∧ kv_sub t r
  | some _ :: _, [] => False
theorem kv_sub_get : ∀ (a b : List (Option Value)), kv_sub a b → ∀ (k : Nat) (v : Value), a[k]? = some (some v) → b[k]? = some (some v)
  | [], _, _, k, v, h => by simp at h
  | none :: t, [], hs, k, v, h => by
    cases k with
    | zero => simp at h
    | succ k =>
      have := kv_sub_get t [] hs k v (by simpa using h)
      simp at this
  | none :: t, _ :: r, hs, k, v, h => by
    cases k with
    | zero => simp at h
    | succ k => simpa using kv_sub_get t r hs k v (by simpa using h)
  | some z :: t, x :: r, hs, k, v, h => by
    cases k with
    | zero =>
      simp at h
      subst h
      simpa using hs.1
    | succ k => simpa using kv_sub_get t r hs.2 k v (by simpa using h)
  | some _ :: _, [], hs, k, v, h => hs.elim
theorem KV.loc {w : KW} {l : Launch} {mm : KM} {dd nc ns pc : Nat} {ls ls2 : List (Option Value)} {st : List Value} {u : KMem} {Q : Option Value → KMem → Prop} (k : KV w l mm dd nc ns pc ls2 st u Q) (h : kv_sub ls2 ls) : KV w l mm dd nc ns pc ls st u Q := by
  intro p e R s m args below meth c H locs cells slots mc ms arr F S M L c1 c2
  refine k p e R s m args below meth c H locs cells slots mc ms arr F S M (kv_hs (fun q hq => ?_) L) c1 c2
  obtain ⟨i, v, h1, h2⟩ := (kv_ll_mem ls2 0 q).mp hq
  exact (kv_ll_mem ls 0 q).mpr ⟨i, v, kv_sub_get ls2 ls h i v h1, h2⟩
theorem KV.post {w : KW} {l : Launch} {mm : KM} {dd nc ns pc : Nat} {ls : List (Option Value)} {st : List Value} {u : KMem} {Q Q2 : Option Value → KMem → Prop} (h : ∀ r v, Q2 r v → Q r v) (k : KV w l mm dd nc ns pc ls st u Q2) : KV w l mm dd nc ns pc ls st u Q := by
  intro p e R s m args below meth c H locs cells slots mc ms arr F S M L c1 c2 T hT X
  obtain ⟨t, h1, o, h2, h3, ⟨⟨r, v, h5, h6, h7⟩, h8⟩, h9⟩ := k p e R s m args below meth c H locs cells slots mc ms arr F S M L c1 c2 T hT X
  exact ⟨t, h1, o, h2, h3, ⟨⟨r, v, h5, h _ _ h6, h7⟩, h8⟩, h9⟩
