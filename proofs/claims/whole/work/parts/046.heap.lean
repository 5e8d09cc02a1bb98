/-! writes to the memory -/
def kv_si (u : KMem) (a k : Nat) (x : Int32) : KMem := (u.1, fun b j => if b = a then (if j = k then x else u.2.1 b j) else u.2.1 b j, u.2.2.1, u.2.2.2)
def kv_sg (u : KMem) (a k : Nat) (x : Int64) : KMem := (u.1, u.2.1, fun b j => if b = a then (if j = k then x else u.2.2.1 b j) else u.2.2.1 b j, u.2.2.2)
def kv_sr (u : KMem) (a k : Nat) (x : Option Nat) : KMem := (u.1, u.2.1, u.2.2.1, fun b j => if b = a then (if j = k then x else u.2.2.2 b j) else u.2.2.2 b j)
/-- one more cell, all 0 -/
def kv_al (u : KMem) : KMem := (u.1 + 1, fun b j => if b = u.1 then 0 else u.2.1 b j, fun b j => if b = u.1 then 0 else u.2.2.1 b j, fun b j => if b = u.1 then none else u.2.2.2 b j)
/-- n places of the row a from i on come to the row b from j on -/
def kv_cp (u : KMem) (a i b j n : Nat) : KMem := (u.1, fun c k => if c = b then (if j ≤ k ∧ k < j + n then u.2.1 a (i + (k - j)) else u.2.1 c k) else u.2.1 c k, u.2.2.1, u.2.2.2)
theorem kv_ce_congr {w : KW} {u v : KMem} {b : Nat} (h1 : ∀ j, v.2.1 b j = u.2.1 b j) (h2 : ∀ j, v.2.2.1 b j = u.2.2.1 b j) (h3 : ∀ j, v.2.2.2 b j = u.2.2.2 b j) : kv_ce w v b = kv_ce w u b := by
  have e1 : v.2.1 b = u.2.1 b := funext h1
  have e2 : v.2.2.1 b = u.2.2.1 b := funext h2
  have e3 : v.2.2.2 b = u.2.2.2 b := funext h3
  have e4 : ∀ ci, kv_fv w v ci b = kv_fv w u ci b := fun ci => funext fun k => by unfold kv_fv; rw [e1, e3]
  unfold kv_ce
  rw [e1, e2, e3, e4]
theorem kv_ws_set {w : KW} {u v : KMem} {a : Nat} {e : va_E} (hn : v.1 = u.1) (ha : a < u.1) (he : kv_ce w v a = e) (ho : ∀ b, b ≠ a → kv_ce w v b = kv_ce w u b) : (kv_ws w u).set a (kv_ad w a, e) = kv_ws w v := by
  apply List.ext_getElem?
  intro k
  by_cases hk : k = a
  · subst hk
    rw [List.getElem?_set_self (by unfold kv_ws; simpa using ha), kv_at (by omega), he]
  · rw [List.getElem?_set_ne (Ne.symm hk)]
    unfold kv_ws
    rw [hn, List.getElem?_map, List.getElem?_map]
    by_cases hl : k < u.1
    · rw [List.getElem?_range hl]
      simp only [Option.map_some]
      rw [ho k hk]
    · rw [List.getElem?_eq_none (by simp; omega)]
      rfl
theorem kv_ce_obj {w : KW} {u : KMem} {a ci n : Nat} (hs : kv_sh a = (ci, n)) (hc : ci < 20) : kv_ce w u a = .inr (ci, (List.range n).map (kv_fv w u ci a)) := by
  unfold kv_ce
  rw [hs]
  exact if_pos hc
theorem kv_ce_int {w : KW} {u : KMem} {a n : Nat} (hs : kv_sh a = (20, n)) : kv_ce w u a = .inl (w.2.2.2.2 0, n, .inl (u.2.1 a)) := by
  unfold kv_ce
  rw [hs]
  rfl
theorem kv_ce_long {w : KW} {u : KMem} {a n : Nat} (hs : kv_sh a = (21, n)) : kv_ce w u a = .inl (w.2.2.2.2 1, n, .inr (.inl (u.2.2.1 a))) := by
  unfold kv_ce
  rw [hs]
  rfl
theorem kv_ce_ref {w : KW} {u : KMem} {a t n : Nat} (hs : kv_sh a = (22 + t, n)) : kv_ce w u a = .inl (w.2.2.2.2 (2 + t), n, .inr (.inr (.inr (.inr (fun j => (u.2.2.2 a j).map (kv_ad w)))))) := by
  unfold kv_ce
  rw [hs]
  rw [if_neg (by show ¬ 22 + t < 20; omega), if_neg (by show ¬ 22 + t = 20; omega), if_neg (by show ¬ 22 + t = 21; omega)]
  show Sum.inl (w.2.2.2.2 (22 + t - 20), _) = _
  rw [show 22 + t - 20 = 2 + t by omega]
theorem kv_rg {f : Nat → Value} {n k : Nat} (h : k < n) : ((List.range n).map f)[k]? = some (f k) := by
  rw [List.getElem?_map, List.getElem?_range h]
  rfl
theorem kv_rgs {f g : Nat → Value} {n k : Nat} {v : Value} (h : k < n) (he : g k = v) (ho : ∀ j, j ≠ k → g j = f j) : ((List.range n).map f).set k v = (List.range n).map g := by
  apply List.ext_getElem?
  intro j
  by_cases hj : j = k
  · subst hj
    rw [List.getElem?_set_self (by simpa using h), kv_rg h, he]
  · rw [List.getElem?_set_ne (Ne.symm hj), List.getElem?_map, List.getElem?_map]
    by_cases hl : j < n
    · rw [List.getElem?_range hl]
      simp only [Option.map_some]
      rw [ho j hj]
    · rw [List.getElem?_eq_none (by simp; omega)]
      rfl
/-- a class of ours by its number -/
def kv_CL (ci : Nat) (C : String) (T : u_T) (N : Nat) (ty0 : Nat → FieldType) : Prop :=
  vwCl[ci]? = some (C, T, N) ∧ (∀ x ∈ u_ws C T N, x ∈ kv_tb) ∧ (∀ k, k < N → parseFieldDescriptor (T k).2.2.1 = some (ty0 k)) ∧ (∀ a, a < N → ∀ b, b < N → a ≠ b → (T a).2.1 ≠ (T b).2.1) ∧ ci < 20
/-- a pool entry of the class own is the field k of the class number ci -/
def kv_FL (own : String) (idx ci k : Nat) (ty : FieldType) (fin : Bool) : Prop :=
  ∃ (C : String) (T : u_T) (N : Nat) (ty0 : Nat → FieldType), kv_CL ci C T N ty0 ∧ k < N ∧ ty0 k = ty ∧ (T k).2.2.2 = fin ∧ (T k).1 = C ∧ Cond.fieldLink own idx (T k).1 (T k).2.1 (T k).2.2.1 ∈ kv_tb
section KVHeap
variable {w : KW} {l : Launch} {mm : KM} {dd nc ns pc : Nat} {ls : List (Option Value)} {rest : List Value} {u : KMem} {Q : Option Value → KMem → Prop}
theorem kv_getV {idx ci k n a : Nat} {ty : FieldType} {fin : Bool} {v : Value} (f : kv_FL mm.1.cls idx ci k ty fin) (ha : a < u.1) (hs : kv_sh a = (ci, n)) (hk : k < n) (hv : kv_fv w u ci a k = kv_co w v) (d : decode mm.2.1 pc = .ok (.getfield idx, 3))
    (kk : KV w l mm dd nc ns (pc + 3) ls (v :: rest) u Q) : KV w l mm dd nc ns pc ls (.ref a :: rest) u Q := by
  intro p e R s m args below meth c H locs cells slots mc ms arr F S M L c1 c2
  obtain ⟨C, T, N, ty0, ⟨hc, hin, hty, hnm, hci⟩, hkN, -, -, -, hlk⟩ := f
  obtain ⟨hx, hb, hr, hlo, hml, hown, hnme, hts, hfr, hlc, hmc, hms, hK, hKC⟩ := id F
  refine va_get (D := kv_G w) (ci := ci) (v := kv_co w v) (C := C) (T := T) (N := N) hx hb hts hin hown hK M.1 a (by rw [kv_at ha, kv_ce_obj hs hci]) hc k hkN (hts _ hlk) (fun _ h => h) (by rw [kv_rg hk, hv]) d ?_
  exact kk p e R s m args below meth c H locs cells slots mc ms arr F S M L c1 c2
/-- getfield of an int -/
theorem kv_getI {idx ci k a : Nat} {ty : FieldType} {fin : Bool} (n : Nat) (d : decode mm.2.1 pc = .ok (.getfield idx, 3)) (f : kv_FL mm.1.cls idx ci k ty fin) (ha : a < u.1) (hs : kv_sh a = (ci, n)) (hk : Nat.blt k n = true) (hi : kv_ir ci k = false)
    (kk : KV w l mm dd nc ns (pc + 3) ls (.int (u.2.1 a k) :: rest) u Q) : KV w l mm dd nc ns pc ls (.ref a :: rest) u Q :=
  kv_getV f ha hs (Nat.le_of_ble_eq_true hk) (by unfold kv_fv; rw [hi]; rfl) d kk
/-- getfield of a reference -/
theorem kv_getR {idx ci k a b : Nat} {ty : FieldType} {fin : Bool} (n : Nat) (d : decode mm.2.1 pc = .ok (.getfield idx, 3)) (f : kv_FL mm.1.cls idx ci k ty fin) (ha : a < u.1) (hs : kv_sh a = (ci, n)) (hk : Nat.blt k n = true) (hi : kv_ir ci k = true) (hb : u.2.2.2 a k = some b)
    (kk : KV w l mm dd nc ns (pc + 3) ls (.ref b :: rest) u Q) : KV w l mm dd nc ns pc ls (.ref a :: rest) u Q :=
  kv_getV f ha hs (Nat.le_of_ble_eq_true hk) (by unfold kv_fv; rw [hi, hb]; rfl) d kk
/-- what a write leaves: the cell a is another, all else as it was -/
theorem kv_Hset {a : Nat} {H H1 : Heap} {u2 : KMem} (M : kv_H w u H) (ha : a < u.1) (h1 : u2.1 = u.1) (h4 : ∀ b, b ≠ a → kv_ce w u2 b = kv_ce w u b) (he : va_at (kv_G w) vwCl (kv_ad w a, kv_ce w u2 a) H1) (hz : H1.size = H.size) (oq : ∀ q : Nat, q ≠ kv_ad w a → H1[q]? = H[q]?) : kv_H w u2 H1 := by
  have hP := M.1.set (kv_D w u M.2.2) (kv_at ha) he oq
  rw [kv_ws_set h1 ha rfl h4] at hP
  exact ⟨hP, by rw [hz, h1]; exact M.2.1, by rw [h1]; exact M.2.2⟩
theorem kv_Ain {a : Nat} {H : Heap} (M : kv_H w u H) (ha : a < u.1) : kv_A w (kv_ad w a) := by
  have h := M.2.2
  show w.1 ≤ kv_ad w a
  rw [kv_adl (by omega)]
  omega
theorem kv_putV {idx ci k n a : Nat} {ty : FieldType} {fin : Bool} {v : Value} {u2 : KMem} (f : kv_FL mm.1.cls idx ci k ty fin) (hfi : fin = true → mm.1.name = "<init>" ∧ (vwCl[ci]?).map (fun q => q.1) = some mm.1.cls) (ha : a < u.1) (hs : kv_sh a = (ci, n)) (hk : k < n) (hn : narrow ty (kv_co w v) = kv_co w v) (hf : fits ty (kv_co w v) = true) (h1 : u2.1 = u.1) (h2 : kv_fv w u2 ci a k = kv_co w v) (h3 : ∀ j, j ≠ k → kv_fv w u2 ci a j = kv_fv w u ci a j) (h4 : ∀ b, b ≠ a → kv_ce w u2 b = kv_ce w u b) (d : decode mm.2.1 pc = .ok (.putfield idx, 3))
    (kk : KV w l mm dd nc ns (pc + 3) ls rest u2 Q) : KV w l mm dd nc ns pc ls (v :: .ref a :: rest) u Q := by
  intro p e R s m args below meth c H locs cells slots mc ms arr F S M L c1 c2
  obtain ⟨C, T, N, ty0, ⟨hc, hin, hty, hnm, hci⟩, hkN, ety, hfin, hdc, hlk⟩ := f
  obtain ⟨hx, hb, hr, hlo, hml, hown, hnme, hts, hfr, hlc, hmc, hms, hK, hKC⟩ := id F
  have hd : parseFieldDescriptor (T k).2.2.1 = some ty := by rw [hty k hkN, ety]
  have hap := va_apart (own := mm.1.cls) hts hin ty0 hty hnm hK hc
  obtain ⟨r, g1, cell, q1, q2, q3, q4⟩ : ∃ r : vw_C, vwCl[ci]? = some r ∧ t_OB (kv_ad w a) (w.2.2.1 ci) r.2.2 (w.2.2.2.1 ci) H (vp_V ((List.range n).map (kv_fv w u ci a))) := by
    have h0 := M.1 a _ (kv_at ha)
    rw [kv_ce_obj hs hci] at h0
    exact h0
  have hr0 : r = (C, T, N) := Option.some.inj (g1.symm.trans hc)
  subst hr0
  obtain ⟨hS, hfc, kC, hkC, hkind⟩ := hK.1 ci _ hc
  obtain ⟨cf, kf, fi, fd, hi, hsl⟩ := hS k hkN
  have hst := (u_facts hfc hkC (u_lays hts hin hkN) hi).1
  have hlay := hts _ (hin _ (u_in_lay hkN))
  have fin2 : ∀ (H1 : Heap), H1[kv_ad w a]? = some (cell.setSlot fd.slot (kv_co w v)) → H1.size = H.size → (∀ q, q ≠ kv_ad w a → H1[q]? = H[q]?) → W p l e R s m args below meth c H1 (locs ++ [⟨kv_ad w a, fd.slot⟩]) cells slots (MQ below (kv_Qc w Q) args s mc ms (kv_A w)) (F0 m (pc + 3) arr (rest.map (kv_co w))) := by
    intro H1 e1 z1 o1
    rw [hsl] at e1
    refine kk p e R s m args below meth c H1 _ cells slots mc ms arr F (S.put z1 o1 (kv_Ain M ha)) (kv_Hset M ha h1 h4 ?_ z1 o1) L c1 c2
    rw [kv_ce_obj hs hci, ← kv_rgs hk h2 h3]
    exact ⟨_, hc, t_OB.to (V := updV (vp_V ((List.range n).map (kv_fv w u ci a))) k (kv_co w v)) ⟨_, e1, q2, q3, t_set q4 hap hkN _⟩ (fun j _ => vp_updV_set (by simpa using hk) _ j)⟩
  cases fin with
  | false =>
    unfold u_lay at hlay
    rw [if_neg (by rw [hfin]; decide)] at hlay
    exact W.putK hx hb (f := fd) ⟨hown, hts _ hlk, ⟨_, _, _, hi⟩, hst⟩ (by rw [q2]; exact u_store hfc hkC hkind hlay hi hd hn hf) q1 q3 (by rw [hsl]; exact k2_hasslot (q4 k hkN)) rfl rfl d fin2
  | true =>
    unfold u_lay at hlay
    rw [if_pos hfin] at hlay
    obtain ⟨hi0, hcn⟩ := hfi rfl
    rw [hc] at hcn
    have hcn : C = mm.1.cls := Option.some.inj hcn
    have hcf : m.cls = cf := by
      obtain ⟨_, _, c', _, _, _, -, -, hf', -, -, -, hown2, -⟩ := Cond.laysFinal_spec hlay
      have e1 : c' = cf := by have := hi.symm.trans hf'; simp at this; exact this.1.symm
      rw [hdc, hcn] at hown2
      rw [← e1]
      exact Option.some.inj (hown.symm.trans hown2)
    exact W.putFinK hx hb hown (hts _ hlk) hi hst hcf (hnme.trans hi0) (by rw [q2]; exact u_fits hfc hkC hkind (Or.inr hlay) hi hd hn hf) q1 q3 (by rw [hsl]; exact k2_hasslot (q4 k hkN)) rfl rfl d fin2
theorem kv_fv_oI {ci a k j : Nat} {x : Int32} (h : j ≠ k) : kv_fv w (kv_si u a k x) ci a j = kv_fv w u ci a j := by
  unfold kv_fv kv_si
  simp [h]
theorem kv_ce_oI {a k b : Nat} {x : Int32} (h : b ≠ a) : kv_ce w (kv_si u a k x) b = kv_ce w u b :=
  kv_ce_congr (fun j => if_neg h) (fun _ => rfl) (fun _ => rfl)
theorem kv_ce_oL {a k b : Nat} {x : Int64} (h : b ≠ a) : kv_ce w (kv_sg u a k x) b = kv_ce w u b :=
  kv_ce_congr (fun _ => rfl) (fun j => if_neg h) (fun _ => rfl)
theorem kv_ce_oR {a k b : Nat} {x : Option Nat} (h : b ≠ a) : kv_ce w (kv_sr u a k x) b = kv_ce w u b :=
  kv_ce_congr (fun _ => rfl) (fun _ => rfl) (fun j => if_neg h)
/-- putfield of an int -/
theorem kv_putI {idx ci k a : Nat} {x : Int32} (n : Nat) (d : decode mm.2.1 pc = .ok (.putfield idx, 3)) (f : kv_FL mm.1.cls idx ci k .int false) (ha : a < u.1) (hs : kv_sh a = (ci, n)) (hk : Nat.blt k n = true) (hi : kv_ir ci k = false)
    (kk : KV w l mm dd nc ns (pc + 3) ls rest (kv_si u a k x) Q) : KV w l mm dd nc ns pc ls (.int x :: .ref a :: rest) u Q :=
  kv_putV (v := .int x) (u2 := kv_si u a k x) f (fun h => by cases h) ha hs (Nat.le_of_ble_eq_true hk) rfl rfl rfl (by unfold kv_fv kv_si; rw [hi]; simp; rfl) (fun j hj => kv_fv_oI hj) (fun b hb => kv_ce_oI hb) d kk
/-- putfield of a boolean -/
theorem kv_putZ {idx ci k a : Nat} {x : Int32} (n : Nat) (d : decode mm.2.1 pc = .ok (.putfield idx, 3)) (f : kv_FL mm.1.cls idx ci k .boolean false) (ha : a < u.1) (hs : kv_sh a = (ci, n)) (hk : Nat.blt k n = true) (hi : kv_ir ci k = false) (hx : narrow .boolean (.int x) = .int x) (hf : fits .boolean (.int x) = true)
    (kk : KV w l mm dd nc ns (pc + 3) ls rest (kv_si u a k x) Q) : KV w l mm dd nc ns pc ls (.int x :: .ref a :: rest) u Q :=
  kv_putV (v := .int x) (u2 := kv_si u a k x) f (fun h => by cases h) ha hs (Nat.le_of_ble_eq_true hk) hx hf rfl (by unfold kv_fv kv_si; rw [hi]; simp; rfl) (fun j hj => kv_fv_oI hj) (fun b hb => kv_ce_oI hb) d kk
/-- putfield of a reference -/
theorem kv_putR {idx ci k a b : Nat} {ty : FieldType} {fin : Bool} (n : Nat) (d : decode mm.2.1 pc = .ok (.putfield idx, 3)) (f : kv_FL mm.1.cls idx ci k ty fin) (hfi : fin = true → mm.1.name = "<init>" ∧ (vwCl[ci]?).map (fun q => q.1) = some mm.1.cls) (ha : a < u.1) (hs : kv_sh a = (ci, n)) (hk : Nat.blt k n = true) (hi : kv_ir ci k = true) (hn : ∀ z, narrow ty (.ref z) = .ref z) (hf : ∀ z, fits ty (.ref z) = true)
    (kk : KV w l mm dd nc ns (pc + 3) ls rest (kv_sr u a k (some b)) Q) : KV w l mm dd nc ns pc ls (.ref b :: .ref a :: rest) u Q :=
  kv_putV (v := .ref b) (u2 := kv_sr u a k (some b)) f hfi ha hs (Nat.le_of_ble_eq_true hk) (hn _) (hf _) rfl (by unfold kv_fv kv_sr; rw [hi]; simp; rfl) (fun j hj => by unfold kv_fv kv_sr; simp [hj]) (fun b hb => kv_ce_oR hb) d kk
/-- the rows -/
theorem kv_iald {a j : Nat} {i : Int32} (n : Nat) (d : decode mm.2.1 pc = .ok (.iaload, 1)) (ha : a < u.1) (hs : kv_sh a = (20, n)) (hi : i = nI j) (hj : j < n) (hn : Nat.blt n 2147483648 = true)
    (kk : KV w l mm dd nc ns (pc + 1) ls (.int (u.2.1 a j) :: rest) u Q) : KV w l mm dd nc ns pc ls (.int i :: .ref a :: rest) u Q := by
  intro p e R s m args below meth c H locs cells slots mc ms arr F S M L c1 c2
  have hn : n < 2147483648 := Nat.le_of_ble_eq_true hn
  obtain ⟨hx, hb, hr, hlo, hml, hown, hnme, hts, hfr, hlc, hmc, hms, hK, hKC⟩ := id F
  refine va_iald (D := kv_G w) hx hb hK M.1 a 0 (cA := w.2.2.2.2 0) (n := n) (f := u.2.1 a) (by rw [kv_at ha, kv_ce_int hs]) rfl (by rw [hi]; exact vp_in_nI hj (by omega)) d ?_
  rw [hi, nI_clamp (by omega)]
  exact kk p e R s m args below meth c H locs cells slots mc ms arr F S M L c1 c2
theorem kv_lald {a j : Nat} {i : Int32} (n : Nat) (d : decode mm.2.1 pc = .ok (.laload, 1)) (ha : a < u.1) (hs : kv_sh a = (21, n)) (hi : i = nI j) (hj : j < n) (hn : Nat.blt n 2147483648 = true)
    (kk : KV w l mm dd nc ns (pc + 1) ls (.long (u.2.2.1 a j) :: rest) u Q) : KV w l mm dd nc ns pc ls (.int i :: .ref a :: rest) u Q := by
  intro p e R s m args below meth c H locs cells slots mc ms arr F S M L c1 c2
  have hn : n < 2147483648 := Nat.le_of_ble_eq_true hn
  obtain ⟨hx, hb, hr, hlo, hml, hown, hnme, hts, hfr, hlc, hmc, hms, hK, hKC⟩ := id F
  refine va_lald (D := kv_G w) hx hb hK M.1 a 1 (cA := w.2.2.2.2 1) (n := n) (f := u.2.2.1 a) (by rw [kv_at ha, kv_ce_long hs]) rfl (by rw [hi]; exact vp_in_nI hj (by omega)) d ?_
  rw [hi, nI_clamp (by omega)]
  exact kk p e R s m args below meth c H locs cells slots mc ms arr F S M L c1 c2
theorem kv_aald {a j b t : Nat} {i : Int32} (n : Nat) (d : decode mm.2.1 pc = .ok (.aaload, 1)) (ha : a < u.1) (hs : kv_sh a = (22 + t, n)) (ht : Nat.blt t 6 = true) (hi : i = nI j) (hj : j < n) (hn : Nat.blt n 2147483648 = true) (hb : u.2.2.2 a j = some b)
    (kk : KV w l mm dd nc ns (pc + 1) ls (.ref b :: rest) u Q) : KV w l mm dd nc ns pc ls (.int i :: .ref a :: rest) u Q := by
  intro p e R s m args below meth c H locs cells slots mc ms arr F S M L c1 c2
  have hn : n < 2147483648 := Nat.le_of_ble_eq_true hn
  have ht : t < 6 := Nat.le_of_ble_eq_true ht
  obtain ⟨hx, hbb, hr, hlo, hml, hown, hnme, hts, hfr, hlc, hmc, hms, hK, hKC⟩ := id F
  obtain ⟨C, hC⟩ : ∃ C, (kv_ty w)[2 + t]? = some (w.2.2.2.2 (2 + t), .object C) := by
    match t, ht with
    | 0, _ => exact ⟨_, rfl⟩
    | 1, _ => exact ⟨_, rfl⟩
    | 2, _ => exact ⟨_, rfl⟩
    | 3, _ => exact ⟨_, rfl⟩
    | 4, _ => exact ⟨_, rfl⟩
    | 5, _ => exact ⟨_, rfl⟩
  refine va_aldq (D := kv_G w) hx hbb hK M.1 a (2 + t) (cA := w.2.2.2.2 (2 + t)) (n := n) (f := fun j => (u.2.2.2 a j).map (kv_ad w)) (by rw [kv_at ha, kv_ce_ref hs]) hC (by rw [hi]; exact vp_in_nI hj (by omega)) d ?_
  rw [hi, nI_clamp (by omega)]
  have e1 : va_rf ((u.2.2.2 a j).map (kv_ad w)) = .ref (kv_ad w b) := by rw [hb]; rfl
  show W p l e R s m args below meth c H locs cells slots _ (F0 m (pc + 1) arr (va_rf ((u.2.2.2 a j).map (kv_ad w)) :: rest.map (kv_co w)))
  rw [e1]
  exact kk p e R s m args below meth c H locs cells slots mc ms arr F S M L c1 c2
theorem kv_alen {a t : Nat} (n : Nat) (d : decode mm.2.1 pc = .ok (.arraylength, 1)) (ha : a < u.1) (hs : kv_sh a = (20 + t, n)) (ht : Nat.blt t 8 = true)
    (kk : KV w l mm dd nc ns (pc + 1) ls (.int (nI n) :: rest) u Q) : KV w l mm dd nc ns pc ls (.ref a :: rest) u Q := by
  intro p e R s m args below meth c H locs cells slots mc ms arr F S M L c1 c2
  have ht : t < 8 := Nat.le_of_ble_eq_true ht
  obtain ⟨hx, hbb, hr, hlo, hml, hown, hnme, hts, hfr, hlc, hmc, hms, hK, hKC⟩ := id F
  obtain ⟨ty, hC⟩ : ∃ ty, (kv_ty w)[t]? = some (w.2.2.2.2 t, ty) := by
    match t, ht with
    | 0, _ => exact ⟨_, rfl⟩
    | 1, _ => exact ⟨_, rfl⟩
    | 2, _ => exact ⟨_, rfl⟩
    | 3, _ => exact ⟨_, rfl⟩
    | 4, _ => exact ⟨_, rfl⟩
    | 5, _ => exact ⟨_, rfl⟩
    | 6, _ => exact ⟨_, rfl⟩
    | 7, _ => exact ⟨_, rfl⟩
  obtain ⟨x, hx1, hx2⟩ : ∃ x : vp_A, kv_ce w u a = .inl (w.2.2.2.2 t, x) ∧ x.1 = n := by
    match t, ht, hs with
    | 0, _, hs => exact ⟨_, kv_ce_int hs, rfl⟩
    | 1, _, hs => exact ⟨_, kv_ce_long hs, rfl⟩
    | t + 2, _, hs =>
      have h := kv_ce_ref (w := w) (u := u) (a := a) (t := t) (n := n) (by rw [hs]; congr 1; omega)
      rw [show 2 + t = t + 2 by omega] at h
      exact ⟨_, h, rfl⟩
  refine va_alen (D := kv_G w) hx hbb hK M.1 a t (cA := w.2.2.2.2 t) (x := x) (by rw [kv_at ha, hx1]) hC (v := nI n) (by rw [hx2]; rfl) d ?_
  exact kk p e R s m args below meth c H locs cells slots mc ms arr F S M L c1 c2
theorem kv_iast {a j : Nat} {i x : Int32} (n : Nat) (d : decode mm.2.1 pc = .ok (.iastore, 1)) (ha : a < u.1) (hs : kv_sh a = (20, n)) (hi : i = nI j) (hj : j < n) (hn : Nat.blt n 2147483648 = true)
    (kk : KV w l mm dd nc ns (pc + 1) ls rest (kv_si u a j x) Q) : KV w l mm dd nc ns pc ls (.int x :: .int i :: .ref a :: rest) u Q := by
  intro p e R s m args below meth c H locs cells slots mc ms arr F S M L c1 c2
  have hn : n < 2147483648 := Nat.le_of_ble_eq_true hn
  obtain ⟨hx, hb, hr, hlo, hml, hown, hnme, hts, hfr, hlc, hmc, hms, hK, hKC⟩ := id F
  have hcl : i.toNatClampNeg = j := by rw [hi, nI_clamp (by omega)]
  have hc0 : H[kv_ad w a]? = some (arrV (w.2.2.2.2 0) n (fun k => .int (u.2.1 a k))) := by
    have h0 := M.1 a _ (kv_at ha)
    rw [kv_ce_int hs] at h0
    exact h0
  refine W.iast hx hb hc0 ((hK.2 0 (w.2.2.2.2 0, .int) rfl).1 n _) (fun q => by cases q) (by rw [arrV_size, hcl]; have := nI_in hj (by omega : n < 2 ^ 31); rw [hi]; intro h; rcases h with h | h; exact this (Or.inl h); omega) rfl rfl d (fun H1 e1 z1 o1 => ?_)
  refine kk p e R s m args below meth c H1 _ cells slots mc ms arr F (S.put z1 o1 (kv_Ain M ha)) (kv_Hset M ha rfl (fun b hb => kv_ce_oI hb) ?_ z1 o1) L c1 c2
  rw [kv_ce_int hs]
  show H1[kv_ad w a]? = some (vp_cell _ _)
  rw [e1, vp_cell_i, arrV_store, hcl]
  congr 2
  funext k
  by_cases hk : k = j
  · subst hk; simp [updV, kv_si]
  · simp [updV, kv_si, hk]
theorem kv_last {a j : Nat} {i : Int32} {x : Int64} (n : Nat) (d : decode mm.2.1 pc = .ok (.lastore, 1)) (ha : a < u.1) (hs : kv_sh a = (21, n)) (hi : i = nI j) (hj : j < n) (hn : Nat.blt n 2147483648 = true)
    (kk : KV w l mm dd nc ns (pc + 1) ls rest (kv_sg u a j x) Q) : KV w l mm dd nc ns pc ls (.long x :: .int i :: .ref a :: rest) u Q := by
  intro p e R s m args below meth c H locs cells slots mc ms arr F S M L c1 c2
  have hn : n < 2147483648 := Nat.le_of_ble_eq_true hn
  obtain ⟨hx, hb, hr, hlo, hml, hown, hnme, hts, hfr, hlc, hmc, hms, hK, hKC⟩ := id F
  have hcl : i.toNatClampNeg = j := by rw [hi, nI_clamp (by omega)]
  have hc0 : H[kv_ad w a]? = some (arrV (w.2.2.2.2 1) n (fun k => .long (u.2.2.1 a k))) := by
    have h0 := M.1 a _ (kv_at ha)
    rw [kv_ce_long hs] at h0
    exact h0
  refine W.last hx hb hc0 ((hK.2 1 (w.2.2.2.2 1, .long) rfl).1 n _) (fun q => by cases q) (by rw [arrV_size, hcl]; have := nI_in hj (by omega : n < 2 ^ 31); rw [hi]; intro h; rcases h with h | h; exact this (Or.inl h); omega) rfl rfl d (fun H1 e1 z1 o1 => ?_)
  refine kk p e R s m args below meth c H1 _ cells slots mc ms arr F (S.put z1 o1 (kv_Ain M ha)) (kv_Hset M ha rfl (fun b hb => kv_ce_oL hb) ?_ z1 o1) L c1 c2
  rw [kv_ce_long hs]
  show H1[kv_ad w a]? = some (vp_cell _ _)
  rw [e1, vp_cell_l, arrV_store, hcl]
  congr 2
  funext k
  by_cases hk : k = j
  · subst hk; simp [updV, kv_sg]
  · simp [updV, kv_sg, hk]
end KVHeap
