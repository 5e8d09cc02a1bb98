/-! memories alike but for places A -/
def kEq (A : Nat → Nat → Prop) (u v : KMem) : Prop := v.1 = u.1 ∧ v.2.2.2 = u.2.2.2 ∧ (∀ a k, ¬ A a k → v.2.1 a k = u.2.1 a k) ∧ ∀ a k, (¬ A a k ∨ (a = 392 ∧ k = 0) ∨ (a = 422 ∧ k = 0)) → v.2.2.1 a k = u.2.2.1 a k
theorem kEq.rf {A : Nat → Nat → Prop} {u : KMem} : kEq A u u := ⟨rfl, rfl, fun _ _ _ => rfl, fun _ _ _ => rfl⟩
theorem kEq.tr {A : Nat → Nat → Prop} {u v x : KMem} (h : kEq A u v) (h2 : kEq A v x) : kEq A u x := ⟨h2.1.trans h.1, h2.2.1.trans h.2.1, fun a k q => (h2.2.2.1 a k q).trans (h.2.2.1 a k q), fun a k q => (h2.2.2.2 a k q).trans (h.2.2.2 a k q)⟩
theorem kEq.wk {A B : Nat → Nat → Prop} {u v : KMem} (h : kEq A u v) (hAB : ∀ a k, A a k → B a k) : kEq B u v := ⟨h.1, h.2.1, fun a k q => h.2.2.1 a k (fun z => q (hAB a k z)), fun a k q => h.2.2.2 a k (q.imp (fun y z => y (hAB a k z)) id)⟩
theorem kEq.wd {A : Nat → Nat → Prop} {u v : KMem} (h : kEq A u v) (hu : kWd u) : kWd v := ⟨h.1.trans hu.1, fun a k b q => by rw [h.2.1]; exact hu.2.1 a k b q, (h.2.2.2 392 0 (Or.inr (Or.inl ⟨rfl, rfl⟩))).trans hu.2.2.1, (h.2.2.2 422 0 (Or.inr (Or.inr ⟨rfl, rfl⟩))).trans hu.2.2.2⟩
theorem kEq.si {A : Nat → Nat → Prop} {u v : KMem} {a k : Nat} {x : Int32} (h : kEq A u v) (ha : A a k) : kEq A u (kv_si v a k x) := ⟨h.1, h.2.1, fun b j q => by
  rw [← h.2.2.1 b j q]
  by_cases hb : b = a
  · by_cases hj : j = k
    · exact absurd (by rw [hb, hj]; exact ha) q
    · exact kv_si_k hj
  · exact kv_si_a hb, h.2.2.2⟩
theorem kEq.sg {A : Nat → Nat → Prop} {u v : KMem} {a k : Nat} {x : Int64} (h : kEq A u v) (ha : A a k) (hn : ¬ (a = 392 ∧ k = 0) ∧ ¬ (a = 422 ∧ k = 0) := by omega) : kEq A u (kv_sg v a k x) := ⟨h.1, h.2.1, h.2.2.1, fun b j q => by
  rw [← h.2.2.2 b j q]
  show (if b = a then (if j = k then x else v.2.2.1 b j) else v.2.2.1 b j) = _
  by_cases hb : b = a
  · by_cases hj : j = k
    · rw [hb, hj] at q
      rcases q with q | q | q
      · exact absurd ha q
      · exact absurd q hn.1
      · exact absurd q hn.2
    · rw [if_pos hb, if_neg hj]
  · rw [if_neg hb]⟩
theorem kEq.row {A : Nat → Nat → Prop} {u v : KMem} (h : kEq A u v) {a : Nat} (ha : ∀ k, ¬ A a k) : v.2.1 a = u.2.1 a := funext fun k => h.2.2.1 a k (ha k)
theorem kEq.rowL {A : Nat → Nat → Prop} {u v : KMem} (h : kEq A u v) {a : Nat} (ha : ∀ k, ¬ A a k) : v.2.2.1 a = u.2.2.1 a := funext fun k => h.2.2.2 a k (Or.inl (ha k))
/-- where the model works: not its rows now, kept, found, MOST, trace, widths, sizes, numbers, and not its fields images, traced -/
def kSM (a k : Nat) : Prop := (419 ≤ a ∧ a ≤ 427 ∧ ¬ (a = 423 ∧ k = 0)) ∨ a = 432 ∨ (a = 413 ∧ ¬ k = 2 ∧ ¬ k = 24)
theorem kSM_now (k : Nat) : ¬ kSM 414 k := by unfold kSM; omega
/-- where the class works: the Judge, the Reader, the Ledger, the Ties, the ways of the Sheets, and of the Voices all but traced -/
def kSX (a k : Nat) : Prop := (385 ≤ a ∧ a ≤ 396 ∧ ¬ (a = 393 ∧ k = 0)) ∨ (a = 397 ∧ ¬ k = 1) ∨ a = 403 ∨ a = 406 ∨ a = 409 ∨ a = 412
/-- an answer, and a memory alike but for A -/
def kp (A : Nat → Nat → Prop) (u : KMem) (x : Option Value) : Option Value → KMem → Prop := fun r v => r = x ∧ kEq A u v
section KWP
variable {w : KW} {l : Launch} {mm : KM} {dd nc ns pc : Nat} {ls : List (Option Value)} {rest : List Value} {u : KMem} {Q : Option Value → KMem → Prop}
theorem kw_Vpi (as : List Value) (m2 : KM) {A : Nat → Nat → Prop} {st : List Value} {d2 n ci nn N idx b : Nat} {T : u_T} {ty0 : Nat → FieldType} {x : Value} (d : decode mm.2.1 pc = .ok (.invokevirtual idx, 3)) (hl : Cond.methodLink mm.1.cls idx m2.1 ∈ kv_tb) (hm : kv_MI m2 n) (hcl : kv_CL ci m2.1.cls T N ty0) (hu : kWd u) (hst : as.reverse ++ .ref b :: rest = st) (hs : kv_sh b = (ci, nn)) (h0 : Nat.blt 0 nn = true) (hn : as.length = n) (h8 : Nat.ble (kv_r8 rest) 8 = true) (hc : KC w l m2 d2 0 0 (.ref b :: as) u (kp A u (some x))) (hd : d2 + 1 ≤ dd)
    (kk : ∀ v, kEq A u v → KV w l mm dd nc ns (pc + 3) ls (x :: rest) v Q) : KV w l mm dd nc ns pc ls st u Q := by
  subst hst
  exact kv_callV as d hl hm hc (kw_rcv hu hs h0 hcl) hn h8 hd (Nat.zero_le _) (Nat.zero_le _) (fun r v2 hq => by obtain ⟨rfl, he⟩ := hq; exact kk v2 he)
theorem kw_Vpv (as : List Value) (m2 : KM) {A : Nat → Nat → Prop} {st : List Value} {d2 n ci nn N idx b : Nat} {T : u_T} {ty0 : Nat → FieldType} (d : decode mm.2.1 pc = .ok (.invokevirtual idx, 3)) (hl : Cond.methodLink mm.1.cls idx m2.1 ∈ kv_tb) (hm : kv_MI m2 n) (hcl : kv_CL ci m2.1.cls T N ty0) (hu : kWd u) (hst : as.reverse ++ .ref b :: rest = st) (hs : kv_sh b = (ci, nn)) (h0 : Nat.blt 0 nn = true) (hn : as.length = n) (h8 : Nat.ble (kv_r8 rest) 8 = true) (hc : KC w l m2 d2 0 0 (.ref b :: as) u (kp A u none)) (hd : d2 + 1 ≤ dd)
    (kk : ∀ v, kEq A u v → KV w l mm dd nc ns (pc + 3) ls rest v Q) : KV w l mm dd nc ns pc ls st u Q := by
  subst hst
  exact kv_callV as d hl hm hc (kw_rcv hu hs h0 hcl) hn h8 hd (Nat.zero_le _) (Nat.zero_le _) (fun r v2 hq => by obtain ⟨rfl, he⟩ := hq; exact kk v2 he)
/-- any post -/
theorem kw_VQ (as : List Value) (m2 : KM) {Q2 : Option Value → KMem → Prop} {st : List Value} {d2 n ci nn N idx b : Nat} {T : u_T} {ty0 : Nat → FieldType} (d : decode mm.2.1 pc = .ok (.invokevirtual idx, 3)) (hl : Cond.methodLink mm.1.cls idx m2.1 ∈ kv_tb) (hm : kv_MI m2 n) (hcl : kv_CL ci m2.1.cls T N ty0) (hu : kWd u) (hst : as.reverse ++ .ref b :: rest = st) (hs : kv_sh b = (ci, nn)) (h0 : Nat.blt 0 nn = true) (hn : as.length = n) (h8 : Nat.ble (kv_r8 rest) 8 = true) (hc : KC w l m2 d2 0 0 (.ref b :: as) u Q2) (hd : d2 + 1 ≤ dd)
    (kk : ∀ r v, Q2 r v → KV w l mm dd nc ns (pc + 3) ls (r.toList ++ rest) v Q) : KV w l mm dd nc ns pc ls st u Q := by
  subst hst
  exact kv_callV as d hl hm hc (kw_rcv hu hs h0 hcl) hn h8 hd (Nat.zero_le _) (Nat.zero_le _) kk
end KWP
theorem kn_i32 {x y : Int32} (h : x.toInt = y.toInt) : x = y := Int32.toInt_inj.mp h
