/-! THE WORLD when all is made: 433 cells, references that never change (but for the Reader's two) -/
def kv_rfS (o : Nat) (s k : Nat) : Option Nat :=
  if o = 0 then [some (s + 1), none, some (s + 2), some (s + 3), some (s + 4), none, some (s + 5), none, some (s + 6), none, some (s + 7), none, some (s + 8), some (s + 9), some (s + 10), none, some (s + 11), none, none].getD k none
  else if o = 1 then (if k < 30 then some (s + (12 + 2 * k)) else none)
  else if o = 5 then (if k < 20 then some (s + (72 + 3 * k)) else none)
  else if o = 6 then (if k < 10 then some (s + (132 + 2 * k)) else none)
  else if o = 7 then (if k < 40 then some (s + (152 + k)) else none)
  else if o < 12 then none
  else if o < 72 then (if o % 2 = 0 then (if k = 5 then some (s + (o + 1)) else none) else none)
  else if o < 132 then (if o % 3 = 0 then (if k = 0 then some (s + (o + 1)) else if k = 1 then some (s + (o + 2)) else none) else none)
  else if o < 152 then (if o % 2 = 0 then (if k = 0 then some (s + (o + 1)) else none) else none)
  else none
def kv_rfL : List (Nat × List (Option Nat)) := [(0, [some 1, some 193, some 385, some 388, some 389, some 394, some 397, some 399, some 400]),
  (385, [some 1, some 386, some 387]), (389, [some 1, some 385, some 390, none, some 391, some 392, some 393]), (394, [some 1, some 395, some 396]), (397, [some 398]), (399, [some 401, some 404, some 407, some 410]),
  (401, [some 402, none, none, some 403]), (404, [some 405, none, none, some 406]), (407, [some 408, none, none, some 409]), (410, [some 411, none, none, some 412]),
  (413, [some 414, some 415, none, some 416, some 417, some 418, none, none, none, none, none, none, some 419, some 420, some 421, some 422, some 423, some 424, some 425, none, some 426, some 427, none, some 428, none, none, none, none, some 429, some 430, some 431, some 432]),
  (418, [some 10100, some 10101, some 10102])]
def kv_rfF : List (Nat × List (Option Nat)) → Nat → Nat → Option Nat
  | [], _, _ => none
  | (b, r) :: t, a, k => if a = b then r.getD k none else kv_rfF t a k
def kv_rf (a k : Nat) : Option Nat := if a = 0 then kv_rfF kv_rfL a k else if a < 193 then kv_rfS (a - 1) 1 k else if a < 385 then kv_rfS (a - 193) 193 k else kv_rfF kv_rfL a k
/-- (and the sums of no one at all, which nobody writes, are 0) -/
def kWd (u : KMem) : Prop := u.1 = 433 ∧ (∀ a k b, kv_rf a k = some b → u.2.2.2 a k = some b) ∧ u.2.2.1 392 0 = 0 ∧ u.2.2.1 422 0 = 0
theorem kv_lt {a ci n k : Nat} (h : kv_sh a = (ci, n)) (hk : k < n) : a < 433 := by
  refine Nat.not_le.mp fun h2 => ?_
  have e : kv_sh a = (0, 0) := by
    unfold kv_sh
    rw [if_neg (by omega), if_neg (by omega), if_neg (by omega)]
    have : kv_shL[a - 385]? = none := List.getElem?_eq_none (by show 48 ≤ a - 385; omega)
    rw [List.getD_eq_getElem?_getD, this]
    rfl
  rw [e] at h
  have : n = 0 := (congrArg Prod.snd h).symm
  omega
section KW
variable {w : KW} {l : Launch} {mm : KM} {dd nc ns pc : Nat} {ls : List (Option Value)} {rest : List Value} {u : KMem} {Q : Option Value → KMem → Prop}
theorem kw_gI {idx ci k a n : Nat} {ty : FieldType} {fin : Bool} (d : decode mm.2.1 pc = .ok (.getfield idx, 3)) (f : kv_FL mm.1.cls idx ci k ty fin) (hu : kWd u) (hs : kv_sh a = (ci, n)) (hk : Nat.blt k n = true) (hi : kv_ir ci k = false)
    (kk : KV w l mm dd nc ns (pc + 3) ls (.int (u.2.1 a k) :: rest) u Q) : KV w l mm dd nc ns pc ls (.ref a :: rest) u Q :=
  kv_getI n d f (by rw [hu.1]; exact kv_lt hs (Nat.le_of_ble_eq_true hk)) hs hk hi kk
theorem kw_gR {idx ci k a b n : Nat} {ty : FieldType} {fin : Bool} (d : decode mm.2.1 pc = .ok (.getfield idx, 3)) (f : kv_FL mm.1.cls idx ci k ty fin) (hu : kWd u) (hs : kv_sh a = (ci, n)) (hk : Nat.blt k n = true) (hi : kv_ir ci k = true) (hb : kv_rf a k = some b)
    (kk : KV w l mm dd nc ns (pc + 3) ls (.ref b :: rest) u Q) : KV w l mm dd nc ns pc ls (.ref a :: rest) u Q :=
  kv_getR n d f (by rw [hu.1]; exact kv_lt hs (Nat.le_of_ble_eq_true hk)) hs hk hi (hu.2.1 _ _ _ hb) kk
theorem kw_pI {idx ci k a n : Nat} {x : Int32} (d : decode mm.2.1 pc = .ok (.putfield idx, 3)) (f : kv_FL mm.1.cls idx ci k .int false) (hu : kWd u) (hs : kv_sh a = (ci, n)) (hk : Nat.blt k n = true) (hi : kv_ir ci k = false)
    (kk : KV w l mm dd nc ns (pc + 3) ls rest (kv_si u a k x) Q) : KV w l mm dd nc ns pc ls (.int x :: .ref a :: rest) u Q :=
  kv_putI n d f (by rw [hu.1]; exact kv_lt hs (Nat.le_of_ble_eq_true hk)) hs hk hi kk
theorem kv_zn {x : Int32} (h : x = 0 ∨ x = 1) : narrow .boolean (.int x) = .int x ∧ fits .boolean (.int x) = true := by
  rcases h with rfl | rfl <;> exact ⟨by decide +kernel, by decide +kernel⟩
theorem kw_pZ {idx ci k a n : Nat} {x : Int32} (d : decode mm.2.1 pc = .ok (.putfield idx, 3)) (f : kv_FL mm.1.cls idx ci k .boolean false) (hu : kWd u) (hs : kv_sh a = (ci, n)) (hk : Nat.blt k n = true) (hi : kv_ir ci k = false) (hx : x = 0 ∨ x = 1)
    (kk : KV w l mm dd nc ns (pc + 3) ls rest (kv_si u a k x) Q) : KV w l mm dd nc ns pc ls (.int x :: .ref a :: rest) u Q :=
  kv_putZ n d f (by rw [hu.1]; exact kv_lt hs (Nat.le_of_ble_eq_true hk)) hs hk hi (kv_zn hx).1 (kv_zn hx).2 kk
theorem kw_il {a n : Nat} {i : Int32} (d : decode mm.2.1 pc = .ok (.iaload, 1)) (hu : kWd u) (hs : kv_sh a = (20, n)) (j : Nat) (hi : i = nI j) (hj : j < n) (hn : Nat.blt n 2147483648 = true)
    (kk : KV w l mm dd nc ns (pc + 1) ls (.int (u.2.1 a j) :: rest) u Q) : KV w l mm dd nc ns pc ls (.int i :: .ref a :: rest) u Q :=
  kv_iald n d (by rw [hu.1]; exact kv_lt hs hj) hs hi hj hn kk
theorem kw_ll {a n : Nat} {i : Int32} (d : decode mm.2.1 pc = .ok (.laload, 1)) (hu : kWd u) (hs : kv_sh a = (21, n)) (j : Nat) (hi : i = nI j) (hj : j < n) (hn : Nat.blt n 2147483648 = true)
    (kk : KV w l mm dd nc ns (pc + 1) ls (.long (u.2.2.1 a j) :: rest) u Q) : KV w l mm dd nc ns pc ls (.int i :: .ref a :: rest) u Q :=
  kv_lald n d (by rw [hu.1]; exact kv_lt hs hj) hs hi hj hn kk
theorem kw_al {a b t n : Nat} {i : Int32} (d : decode mm.2.1 pc = .ok (.aaload, 1)) (hu : kWd u) (hs : kv_sh a = (22 + t, n)) (ht : Nat.blt t 6 = true) (j : Nat) (hi : i = nI j) (hj : j < n) (hn : Nat.blt n 2147483648 = true) (hb : kv_rf a j = some b)
    (kk : KV w l mm dd nc ns (pc + 1) ls (.ref b :: rest) u Q) : KV w l mm dd nc ns pc ls (.int i :: .ref a :: rest) u Q :=
  kv_aald n d (by rw [hu.1]; exact kv_lt hs hj) hs ht hi hj hn (hu.2.1 _ _ _ hb) kk
theorem kw_len {a t n : Nat} (d : decode mm.2.1 pc = .ok (.arraylength, 1)) (hu : kWd u) (hs : kv_sh a = (20 + t, n)) (ht : Nat.blt t 8 = true) (h0 : Nat.blt 0 n = true)
    (kk : KV w l mm dd nc ns (pc + 1) ls (.int (nI n) :: rest) u Q) : KV w l mm dd nc ns pc ls (.ref a :: rest) u Q :=
  kv_alen n d (by rw [hu.1]; exact kv_lt hs (Nat.le_of_ble_eq_true h0)) hs ht kk
theorem kw_is {a n : Nat} {i x : Int32} (d : decode mm.2.1 pc = .ok (.iastore, 1)) (hu : kWd u) (hs : kv_sh a = (20, n)) (j : Nat) (hi : i = nI j) (hj : j < n) (hn : Nat.blt n 2147483648 = true)
    (kk : KV w l mm dd nc ns (pc + 1) ls rest (kv_si u a j x) Q) : KV w l mm dd nc ns pc ls (.int x :: .int i :: .ref a :: rest) u Q :=
  kv_iast n d (by rw [hu.1]; exact kv_lt hs hj) hs hi hj hn kk
theorem kw_ls {a n : Nat} {i : Int32} {x : Int64} (d : decode mm.2.1 pc = .ok (.lastore, 1)) (hu : kWd u) (hs : kv_sh a = (21, n)) (j : Nat) (hi : i = nI j) (hj : j < n) (hn : Nat.blt n 2147483648 = true)
    (kk : KV w l mm dd nc ns (pc + 1) ls rest (kv_sg u a j x) Q) : KV w l mm dd nc ns pc ls (.long x :: .int i :: .ref a :: rest) u Q :=
  kv_last n d (by rw [hu.1]; exact kv_lt hs hj) hs hi hj hn kk
theorem kw_copy {a b i j n na nb idx : Nat} {xi xj xn : Int32} (d : decode mm.2.1 pc = .ok (.invokestatic idx, 3)) (hl : Cond.methodLink mm.1.cls idx arraycopyName ∈ kv_tb) (hu : kWd u) (hsa : kv_sh a = (20, na)) (hsb : kv_sh b = (20, nb)) (hi : xi = nI i) (hj : xj = nI j) (hn : xn = nI n) (h1 : i + n ≤ na) (h2 : j + n ≤ nb) (h3 : Nat.blt na 100000 = true) (h4 : Nat.blt nb 100000 = true) (ha0 : Nat.blt 0 na = true) (hb0 : Nat.blt 0 nb = true) (h8 : Nat.ble (kv_r8 rest) 8 = true) (hd : 1 ≤ dd)
    (kk : KV w l mm dd nc ns (pc + 3) ls rest (kv_cp u a i b j n) Q) : KV w l mm dd nc ns pc ls (.int xn :: .int xj :: .ref b :: .int xi :: .ref a :: rest) u Q :=
  kv_copy hu.1 d hl w_copy (by rw [hu.1]; exact kv_lt hsa (Nat.le_of_ble_eq_true ha0)) (by rw [hu.1]; exact kv_lt hsb (Nat.le_of_ble_eq_true hb0)) hsa hsb hi hj hn h1 h2 h3 h4 h8 hd kk
/-! contracts that say the answer and the memory -/
def kq (x : Option Value) (v0 : KMem) : Option Value → KMem → Prop := fun r v => r = x ∧ v = v0
theorem kw_rcv {b ci n N : Nat} {C : String} {T : u_T} {ty0 : Nat → FieldType} (hu : kWd u) (hs : kv_sh b = (ci, n)) (h0 : Nat.blt 0 n = true) (hc : kv_CL ci C T N ty0) : kv_rcv w u b C := Or.inl ⟨ci, n, T, N, by rw [hu.1]; exact kv_lt hs (Nat.le_of_ble_eq_true h0), hs, hc.2.2.2.2, hc.1⟩
theorem kw_V (as : List Value) {st : List Value} {m2 : KM} {d2 n ci nn N idx b : Nat} {T : u_T} {ty0 : Nat → FieldType} {x : Option Value} {v : KMem} (d : decode mm.2.1 pc = .ok (.invokevirtual idx, 3)) (hl : Cond.methodLink mm.1.cls idx m2.1 ∈ kv_tb) (hm : kv_MI m2 n) (hcl : kv_CL ci m2.1.cls T N ty0) (hu : kWd u) (hs : kv_sh b = (ci, nn)) (h0 : Nat.blt 0 nn = true) (hst : as.reverse ++ .ref b :: rest = st) (hn : as.length = n) (h8 : Nat.ble (kv_r8 rest) 8 = true) (hd : d2 + 1 ≤ dd) (hc : KC w l m2 d2 0 0 (.ref b :: as) u (kq x v))
    (kk : KV w l mm dd nc ns (pc + 3) ls (x.toList ++ rest) v Q) : KV w l mm dd nc ns pc ls st u Q := by
  subst hst
  exact kv_callV as d hl hm hc (kw_rcv hu hs h0 hcl) hn h8 hd (Nat.zero_le _) (Nat.zero_le _) (fun r v2 hq => by obtain ⟨rfl, rfl⟩ := hq; exact kk)
theorem kw_S (as : List Value) {st : List Value} {m2 : KM} {d2 n idx : Nat} {x : Option Value} {v : KMem} (d : decode mm.2.1 pc = .ok (.invokestatic idx, 3)) (hl : Cond.methodLink mm.1.cls idx m2.1 ∈ kv_tb) (hm : kv_MS m2 n) (hst : as.reverse ++ rest = st) (hn : as.length = n) (h8 : Nat.ble (kv_r8 rest) 8 = true) (hd : d2 + 1 ≤ dd) (hc : KC w l m2 d2 0 0 as u (kq x v))
    (kk : KV w l mm dd nc ns (pc + 3) ls (x.toList ++ rest) v Q) : KV w l mm dd nc ns pc ls st u Q := by
  subst hst
  exact kv_callS as d hl hm hc hn h8 hd (Nat.zero_le _) (Nat.zero_le _) (fun r v2 hq => by obtain ⟨rfl, rfl⟩ := hq; exact kk)
theorem kw_SN (as : List Value) {st : List Value} {m2 : KM} {d2 n idx : Nat} {x : Option Value} {v : KMem} (d : decode mm.2.1 pc = .ok (.invokestatic idx, 3)) (hl : (mm.1.cls, idx, m2.1) ∈ kv_nM) (hm : kv_MS m2 n) (hst : as.reverse ++ rest = st) (hn : as.length = n) (h8 : Nat.ble (kv_r8 rest) 8 = true) (hd : d2 + 1 ≤ dd) (hc : KC w l m2 d2 0 0 as u (kq x v))
    (kk : KV w l mm dd nc ns (pc + 3) ls (x.toList ++ rest) v Q) : KV w l mm dd nc ns pc ls st u Q := by
  subst hst
  exact kv_callSN as d hl hm hc hn h8 hd (Nat.zero_le _) (Nat.zero_le _) (fun r v2 hq => by obtain ⟨rfl, rfl⟩ := hq; exact kk)
/-- a branch on a test's answer -/
theorem kw_bne {c : Prop} {hc : Decidable c} {off : Int} (d : decode mm.2.1 pc = .ok (.ifCond .ne off, 3)) (tgt : Nat) (ht : (pc : Int) + off = (tgt : Int)) (kt : c → KV w l mm dd nc ns tgt ls rest u Q) (kf : ¬ c → KV w l mm dd nc ns (pc + 3) ls rest u Q) : KV w l mm dd nc ns pc ls (.int (@ite _ c hc 1 0) :: rest) u Q :=
  kv_if_ne d tgt ht (fun h => kt (Decidable.byContradiction fun h2 => h (if_neg h2))) (fun h => kf (fun h2 => by rw [if_pos h2] at h; exact absurd h (by decide)))
theorem kw_beq {c : Prop} {hc : Decidable c} {off : Int} (d : decode mm.2.1 pc = .ok (.ifCond .eq off, 3)) (tgt : Nat) (ht : (pc : Int) + off = (tgt : Int)) (kt : ¬ c → KV w l mm dd nc ns tgt ls rest u Q) (kf : c → KV w l mm dd nc ns (pc + 3) ls rest u Q) : KV w l mm dd nc ns pc ls (.int (@ite _ c hc 1 0) :: rest) u Q :=
  kv_if_eq d tgt ht (fun h => kt (fun h2 => by rw [if_pos h2] at h; exact absurd h (by decide))) (fun h => kf (Decidable.byContradiction fun h2 => h (if_neg h2)))
end KW
/-! a car, a crash, a treaty, an entry of the store that begins at s (1 or 193) -/
theorem ks_car : ∀ i, i < 30 → kv_sh (1 + (12 + 2 * i)) = (0, 6) ∧ kv_sh (1 + (12 + 2 * i + 1)) = (20, 3) ∧ kv_rf (1 + (12 + 2 * i)) 5 = some (1 + (12 + 2 * i + 1)) ∧ kv_rf 2 i = some (1 + (12 + 2 * i)) := by decide +kernel
theorem ks_crash : ∀ i, i < 20 → kv_sh (1 + (72 + 3 * i)) = (1, 5) ∧ kv_sh (1 + (72 + 3 * i + 1)) = (20, 2) ∧ kv_sh (1 + (72 + 3 * i + 2)) = (20, 2) ∧ kv_rf (1 + (72 + 3 * i)) 0 = some (1 + (72 + 3 * i + 1)) ∧ kv_rf (1 + (72 + 3 * i)) 1 = some (1 + (72 + 3 * i + 2)) ∧ kv_rf 6 i = some (1 + (72 + 3 * i)) := by decide +kernel
theorem ks_treaty : ∀ i, i < 10 → kv_sh (1 + (132 + 2 * i)) = (9, 4) ∧ kv_sh (1 + (132 + 2 * i + 1)) = (20, 60) ∧ kv_rf (1 + (132 + 2 * i)) 0 = some (1 + (132 + 2 * i + 1)) ∧ kv_rf 7 i = some (1 + (132 + 2 * i)) := by decide +kernel
theorem ks_entry : ∀ i, i < 40 → kv_sh (1 + (152 + i)) = (2, 6) ∧ kv_rf 8 i = some (1 + (152 + i)) := by decide +kernel
