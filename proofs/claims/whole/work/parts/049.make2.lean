section KVMake2
variable {w : KW} {l : Launch} {mm : KM} {dd nc ns pc : Nat} {ls : List (Option Value)} {rest : List Value} {u : KMem} {Q : Option Value → KMem → Prop}
theorem kv_tyq {w : KW} {t : Nat} (ht : t < 6) : ∃ C, (kv_ty w)[2 + t]? = some (w.2.2.2.2 (2 + t), .object C) ∧ ["KnockTable$Car", "KnockTable$Crash", "KnockTable$Treaty", "KnockTable$Entry", "KnockTable$Sheet", "java/lang/String"][t]? = some C := by
  match t, ht with
  | 0, _ => exact ⟨_, rfl, rfl⟩
  | 1, _ => exact ⟨_, rfl, rfl⟩
  | 2, _ => exact ⟨_, rfl, rfl⟩
  | 3, _ => exact ⟨_, rfl, rfl⟩
  | 4, _ => exact ⟨_, rfl, rfl⟩
  | 5, _ => exact ⟨_, rfl, rfl⟩
theorem kv_newA {n t idx : Nat} {x : Int32} {C : String} (d : decode mm.2.1 pc = .ok (.anewarray idx, 3)) (hC : ["KnockTable$Car", "KnockTable$Crash", "KnockTable$Treaty", "KnockTable$Entry", "KnockTable$Sheet", "java/lang/String"][t]? = some C) (hlk : Cond.classLink mm.1.cls idx C ∈ kv_tb) (hw : C ∈ kv_nA) (hs : kv_sh u.1 = (22 + t, n)) (hu : u.1 < 433) (hx : x = nI n) (hn : Nat.blt n 100000 = true) (h1 : 1 ≤ nc) (h2 : n ≤ ns)
    (kk : KV w l mm dd (nc - 1) (ns - n) (pc + 3) ls (.ref u.1 :: rest) (kv_al u) Q) : KV w l mm dd nc ns pc ls (.int x :: rest) u Q := by
  intro p e R s m args below meth c H locs cells slots mc ms arr F S M L c1 c2
  have hn : n < 100000 := Nat.le_of_ble_eq_true hn
  obtain ⟨hx0, hb, hr, hlo, hml, hown, hnme, hts, hfr, hlc, hmc, hms, hK, hKC, -, hN⟩ := id F
  have ht : t < 6 := (List.getElem?_eq_some_iff.mp hC).1
  obtain ⟨C', hT, hC'⟩ := kv_tyq (w := w) ht
  have hCC : C' = C := Option.some.inj (hC'.symm.trans hC)
  subst hCC
  have en : x.toNatClampNeg = n := by rw [hx, nI_clamp (by omega)]
  refine W.anew hx0 hb hown (hts _ hlk) (va_AO.use (hN.2.2.1 _ hw)) rfl d rfl (n := x) (by rw [hx]; exact nI_pos (by omega)) (by rw [en]; omega) (by omega) (by rw [en]; omega) (fun cA kA comp f1 f2 f3 f4 => ?_)
  have hcA : cA = w.2.2.2.2 (2 + t) := by
    obtain ⟨kB, cB, -, -, -, h0⟩ := (hK.2 (2 + t) _ hT).2
    exact Option.some.inj (f1.symm.trans h0)
  subst hcA
  rw [en]
  generalize hH1 : H.push ({ cls := w.2.2.2.2 (2 + t), slots := Array.replicate n .null, vm := .none } : Cell) = H1
  have z1 : H1.size = H.size + 1 := by rw [← hH1, Array.size_push]
  have e1 : H1[H.size]? = some (arrV (w.2.2.2.2 (2 + t)) n (fun _ => .null)) := by rw [← hH1, Array.getElem?_push_size, ← arrV_new]
  have o1 : ∀ q : Nat, q < H.size → H1[q]? = H[q]? := fun q hq => by rw [← hH1, Array.getElem?_push, if_neg (Nat.ne_of_lt hq)]
  have hz := kv_sz M hu
  rw [hz] at e1 ⊢
  refine kk p e R s m args below meth c H1 locs (cells + 1) (slots + n) mc ms arr F (kv_Sal S z1 o1) (kv_Hal M hu ?_ z1 o1) L (by omega) (by omega)
  rw [kv_ce_ref hs]
  show H1[kv_ad w u.1]? = some (vp_cell _ _)
  rw [e1, vp_cell_q]
  congr 2
  funext k
  simp [kv_al, va_rf]
/-- a reference into a row: its cell is of the row's own class -/
theorem kv_aastV {a b t j n : Nat} {i : Int32} {C : String} (d : decode mm.2.1 pc = .ok (.aastore, 1)) (hC : ["KnockTable$Car", "KnockTable$Crash", "KnockTable$Treaty", "KnockTable$Entry", "KnockTable$Sheet", "java/lang/String"][t]? = some C) (ha : a < u.1) (hs : kv_sh a = (22 + t, n)) (hi : i = nI j) (hj : j < n) (hn : Nat.blt n 100000 = true) (hrv : kv_rcv w u b C) (ho : C = "java/lang/String" → (Cond.instantiable "java/lang/String" 4 ∈ kv_tb ∨ True))
    (hcell : ∀ (s : State) (H : Heap) (locs : List Loc), kv_K w s → va_S (kv_A w) s.heap H locs → kv_H w u H → ∃ cellB : Cell, H[kv_ad w b]? = some cellB ∧ cellB.vm.isStatics = false ∧ s.vm.findClass C = some cellB.cls ∧ s.vm.assignable cellB.cls cellB.cls = true)
    (kk : KV w l mm dd nc ns (pc + 1) ls rest (kv_sr u a j (some b)) Q) : KV w l mm dd nc ns pc ls (.ref b :: .int i :: .ref a :: rest) u Q := by
  intro p e R s m args below meth c H locs cells slots mc ms arr F S M L c1 c2
  have hn : n < 100000 := Nat.le_of_ble_eq_true hn
  obtain ⟨hx0, hb, hr, hlo, hml, hown, hnme, hts, hfr, hlc, hmc, hms, hKK⟩ := id F
  obtain ⟨hK, hKC, -⟩ := id hKK
  have ht : t < 6 := (List.getElem?_eq_some_iff.mp hC).1
  obtain ⟨C', hT, hC'⟩ := kv_tyq (w := w) ht
  have hCC : C' = C := Option.some.inj (hC'.symm.trans hC)
  subst hCC
  obtain ⟨cellB, g1, g2, g3, g4⟩ := hcell s H locs hKK S M
  obtain ⟨kA, comp, k1, k2, k3, -⟩ := (hK.2 (2 + t) _ hT).2
  have hcp : comp = cellB.cls := Option.some.inj (k3.symm.trans g3)
  obtain ⟨kE, hkE, -⟩ := Vm.findClass_spec k3
  have hcl : i.toNatClampNeg = j := by rw [hi, nI_clamp (by omega)]
  have hc0 : H[kv_ad w a]? = some (arrV (w.2.2.2.2 (2 + t)) n (fun k => va_rf ((u.2.2.2 a k).map (kv_ad w)))) := by
    have h0 := M.1 a _ (kv_at ha)
    rw [kv_ce_ref hs] at h0
    exact h0
  refine W.aast hx0 hb hc0 (fun q h => by cases h) (fun h => by cases h) k1 k2 rfl hkE ⟨by rw [hi]; exact nI_pos (by omega), by rw [arrV_size, hcl]; exact hj⟩ g1 (fun q h => by rw [h] at g2; cases g2) (by rw [← hcp]; exact hkE) (by rw [hcp]; exact g4) rfl rfl d (fun H1 e1 z1 o1 => ?_)
  refine kk p e R s m args below meth c H1 _ cells slots mc ms arr F (S.put z1 o1 (kv_Ain M ha)) (kv_Hset M ha rfl (fun b hb => kv_ce_oR hb) ?_ z1 o1) L c1 c2
  rw [kv_ce_ref hs]
  show H1[kv_ad w a]? = some (vp_cell _ _)
  rw [e1, vp_cell_q, arrV_store, hcl]
  congr 2
  funext k
  by_cases hk : k = j
  · subst hk; simp [updV, kv_sr, va_rf]
  · simp [updV, kv_sr, hk]
theorem kv_aast {a b t j n ci k N : Nat} {i : Int32} {C : String} {T : u_T} (d : decode mm.2.1 pc = .ok (.aastore, 1)) (hC : ["KnockTable$Car", "KnockTable$Crash", "KnockTable$Treaty", "KnockTable$Entry", "KnockTable$Sheet", "java/lang/String"][t]? = some C) (ha : a < u.1) (hs : kv_sh a = (22 + t, n)) (hi : i = nI j) (hj : j < n) (hn : Nat.blt n 100000 = true) (hb : b < u.1) (hsb : kv_sh b = (ci, k)) (hci : ci < 20) (hcl : vwCl[ci]? = some (C, T, N))
    (kk : KV w l mm dd nc ns (pc + 1) ls rest (kv_sr u a j (some b)) Q) : KV w l mm dd nc ns pc ls (.ref b :: .int i :: .ref a :: rest) u Q := by
  refine kv_aastV d hC ha hs hi hj hn (Or.inl ⟨ci, k, T, N, hb, hsb, hci, hcl⟩) (fun _ => Or.inr trivial) (fun s H locs hKK S M => ?_) kk
  obtain ⟨hK, hKC, -⟩ := hKK
  obtain ⟨q', h1, cell, g1, g2, g3, -⟩ := M.1 b _ (by rw [kv_at hb, kv_ce_obj hsb hci])
  exact ⟨cell, g1, by rw [g3]; rfl, by rw [g2]; exact (hK.1 ci _ hcl).2.1, by rw [g2]; exact va_assign (hK.1 ci _ hcl).2⟩
/-- Object's own constructor -/
theorem kv_objI {a idx : Nat} (d : decode mm.2.1 pc = .ok (.invokespecial idx, 3)) (hl : Cond.methodLink mm.1.cls idx objectInit ∈ kv_tb) (h0 : Cond.instanceMethod objectInit ∈ kv_tb ∧ Cond.code objectInit ⟨#[0xb1]⟩ 1 none ∈ kv_tb) (h8 : Nat.ble (kv_r8 rest) 8 = true) (hd : 1 ≤ dd)
    (kk : KV w l mm dd nc ns (pc + 3) ls rest u Q) : KV w l mm dd nc ns pc ls (.ref a :: rest) u Q := by
  intro p e R s m args below meth c H locs cells slots mc ms arr F S M L c1 c2
  have h8 : kv_r8 rest ≤ 8 := Nat.le_of_ble_eq_true h8
  obtain ⟨hx0, hb, hr, hlo, hml, hown, hnme, hts, hfr, hlc, hmc, hms, hK, hKC, -⟩ := id F
  refine W.objInit hx0 hb hown (hts _ hl) (hts _ h0.1) (hts _ h0.2) rfl (by rw [hml]; exact L.1) rfl d (by omega) ?_ ?_
  · show 2 * 0 + _ + 12 ≤ R.locals
    rw [kv_r8_eq]
    omega
  · exact kk p e R s m args below meth c H locs cells slots mc ms arr F S M L c1 c2
end KVMake2
