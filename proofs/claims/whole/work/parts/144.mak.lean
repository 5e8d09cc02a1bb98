/-! THE MAKING OF CLASS AND MODEL: clone, cast -/
def kv_rw (u : KMem) (a : Nat) (f : Nat → Int32) : KMem := (u.1, fun b j => if b = a then f j else u.2.1 b j, u.2.2.1, u.2.2.2)
def kRt (j : Nat) : Int32 := (kv_stT.getD 0 []).getD j 0
theorem w_clone : Cond.methodLink "KnockTable$Store" 51 ⟨"[I", "clone", "()Ljava/lang/Object;"⟩ ∈ kv_tb ∧ Cond.sameMethod "[I" "java/lang/Object" "clone" "()Ljava/lang/Object;" ∈ kv_tb ∧ Cond.native ⟨"java/lang/Object", "clone", "()Ljava/lang/Object;"⟩ ∈ kv_tb ∧ Cond.instanceMethod ⟨"java/lang/Object", "clone", "()Ljava/lang/Object;"⟩ ∈ kv_tb ∧ Cond.selects "[I" ⟨"[I", "clone", "()Ljava/lang/Object;"⟩ ⟨"java/lang/Object", "clone", "()Ljava/lang/Object;"⟩ ∈ kv_tb :=
  ⟨kv_in (kv_t1 (List.mem_of_getElem? (i := 46) (by decide +kernel))) rfl, kv_in (kv_t1 (List.mem_of_getElem? (i := 47) (by decide +kernel))) rfl, kv_in (kv_t1 (List.mem_of_getElem? (i := 48) (by decide +kernel))) rfl, kv_in (kv_t1 (List.mem_of_getElem? (i := 49) (by decide +kernel))) rfl, kv_in (kv_t1 (List.mem_of_getElem? (i := 50) (by decide +kernel))) rfl⟩
section KCLO
variable {w : KW} {l : Launch} {mm : KM} {dd nc ns pc : Nat} {ls : List (Option Value)} {rest : List Value} {u : KMem} {Q : Option Value → KMem → Prop}
theorem kv_clone (d : decode mm.2.1 pc = .ok (.invokevirtual 51, 3)) (hc : mm.1.cls = "KnockTable$Store") (hs : kv_sh u.1 = (20, 7)) (hu : u.1 < 433) (h8 : Nat.ble (kv_r8 rest) 8 = true) (hd : 1 ≤ dd) (h1 : 1 ≤ nc) (h2 : 7 ≤ ns)
    (kk : KV w l mm dd (nc - 1) (ns - 7) (pc + 3) ls (.ref u.1 :: rest) (kv_rw (kv_al u) u.1 kRt) Q) : KV w l mm dd nc ns pc ls (.ref 10000 :: rest) u Q := by
  intro p e R s m args below meth c H locs cells slots mc ms arr F S M L c1 c2
  have h8 : kv_r8 rest ≤ 8 := Nat.le_of_ble_eq_true h8
  obtain ⟨hx0, hb, hr, hlo, hml, hown, hnme, hts, hfr, hlc, hmc, hms, hK, hKC, -, hN⟩ := id F
  obtain ⟨wl, w1, w2, w3, w4⟩ := w_clone
  rw [hc] at hown
  obtain ⟨cell, k6, k7, k8, k9, k10, k11⟩ := hKC.2.2.2.2.2
  have hnm : s.vm.findClass "[I" = some (w.2.2.2.2 0) := (hK.2 0 (w.2.2.2.2 0, .int) rfl).2
  have hce : cell.slots = (arrV (w.2.2.2.2 0) 7 (fun j => .int (kRt j))).slots := k11
  have hcellE : ({ cls := cell.cls, slots := cell.slots } : Cell) = arrV (w.2.2.2.2 0) 7 (fun j => .int (kRt j)) := by rw [k8, hce]; rfl
  have hsz : cell.slots.size = 7 := by rw [hce]; exact arrV_size _ _ _
  obtain ⟨c0, t0', f1, f2, f3⟩ := Cond.castable_spec (va_Nw.use (A := args) rfl hN.2.2.2)
  cases hnm.symm.trans f1
  have hcH : H[w.2.1 0]? = some cell := by rw [S.2.1 _ (Array.getElem?_eq_some_iff.mp k6).1 k7]; exact k6
  rw [List.map_cons, show kv_co w (.ref 10000) = .ref (w.2.1 0) from congrArg Value.ref (kv_adc 0)]
  intro T hT X
  obtain ⟨-, kA, hkA, comp, hkind⟩ := State.isArrayOf_alike X.warmed.alike ((hK.2 0 (w.2.2.2.2 0, .int) rfl).1 0 (fun _ => .null))
  obtain ⟨-, kS, hkS, compS, hkindS⟩ := (hK.2 0 (w.2.2.2.2 0, .int) rfl).1 0 (fun _ => .null)
  obtain ⟨vm', X', st⟩ := X.cloneArray hx0 hown (hts _ wl) (hts _ w1) (hts _ w2) (hts _ w3) (hts _ w4) (a := w.2.1 0) (cell := cell) (by rw [hT]; exact hcH) k9 k10 (by rw [k8]; exact hnm) f2 (by rw [k8]; exact f3)
    (fun i v hv => by
      rw [k8]
      have hk' : T.vm.classes[w.2.2.2.2 0]? = some kA := hkA
      have hf : fits .int v = true := by
        rw [hce] at hv
        unfold arrV at hv
        obtain ⟨h3, h4⟩ := Array.getElem?_eq_some_iff.mp hv
        rw [Array.getElem_ofFn] at h4
        rw [← h4]
        rfl
      simpa [State.fitsSlot, State.slotType?, hk', hkind] using hf)
    (g := F0 m pc arr (.ref (w.2.1 0) :: rest.map (kv_co w))) rfl (by rw [hml]; exact L.1) rfl (by rw [hb]; exact d) (by omega) (by show 2 * 0 + _ + 14 ≤ _; rw [kv_r8_eq]; omega) (by omega) (by rw [hsz]; omega) (hloader := by rw [k8]; exact Vm.clonesLoader_of_array hkS hkindS)
  rw [hcellE, hsz] at X'
  generalize hH1 : H.push (arrV (w.2.2.2.2 0) 7 (fun j => .int (kRt j))) = H1
  have z1 : H1.size = H.size + 1 := by rw [← hH1, Array.size_push]
  have e1 : H1[H.size]? = some (arrV (w.2.2.2.2 0) 7 (fun j => .int (kRt j))) := by rw [← hH1, Array.getElem?_push_size]
  have o1 : ∀ q : Nat, q < H.size → H1[q]? = H[q]? := fun q hq => by rw [← hH1, Array.getElem?_push, if_neg (Nat.ne_of_lt hq)]
  have hz := kv_sz M hu
  have M1 : kv_H w (kv_rw (kv_al u) u.1 kRt) H1 := by
    have hsz0 : H.size = w.1 + u.1 := by rw [hz, kv_adl (by omega)]
    refine ⟨fun k q hk => ?_, Or.inr (by rw [z1, hsz0]; rfl), hu⟩
    have hk2 : k < u.1 + 1 := by
      have := (List.getElem?_eq_some_iff.mp hk).1
      unfold kv_ws at this
      simpa [kv_rw, kv_al] using this
    have hq := kv_at (w := w) (u := kv_rw (kv_al u) u.1 kRt) (a := k) hk2
    rw [hq] at hk
    cases hk
    by_cases e2 : k = u.1
    · subst e2
      rw [kv_ce_int hs]
      show H1[kv_ad w u.1]? = some (vp_cell _ _)
      rw [← hz, e1, vp_cell_i]
      congr 2
      funext j
      simp [kv_rw]
    · have h0 := M.1 k _ (kv_at (by omega))
      have e3 : kv_ce w (kv_rw (kv_al u) u.1 kRt) k = kv_ce w u k := kv_ce_congr (fun j => (if_neg e2).trans (if_neg e2)) (fun j => if_neg e2) (fun j => if_neg e2)
      rw [e3]
      refine h0.kept (o1 _ ?_)
      show kv_ad w k < H.size
      rw [kv_adl (by omega), hsz0]
      omega
  have h := kk p e R s m args below meth c H1 locs (cells + 1) (slots + 7) mc ms arr F (kv_Sal S z1 o1) M1 L (by omega) (by omega)
  rw [List.map_cons, show kv_co w (.ref u.1) = .ref (kv_ad w u.1) from rfl, ← hz] at h
  obtain ⟨t, b1, b2⟩ := h ((T.setVm vm').pushCell (arrV (w.2.2.2.2 0) 7 (fun j => .int (kRt j)))) (by rw [← hH1, ← hT]; rfl) X'
  refine ⟨t, st t ?_, b2⟩
  rw [hcellE, hT]
  exact b1
theorem kv_castI {idx a n : Nat} (d : decode mm.2.1 pc = .ok (.checkcast idx, 3)) (hl : Cond.classLink mm.1.cls idx "[I" ∈ kv_tb) (ha : a < u.1) (hs : kv_sh a = (20, n))
    (kk : KV w l mm dd nc ns (pc + 3) ls (.ref a :: rest) u Q) : KV w l mm dd nc ns pc ls (.ref a :: rest) u Q := by
  intro p e R s m args below meth c H locs cells slots mc ms arr F S M L c1 c2
  obtain ⟨hx0, hb, hr, hlo, hml, hown, hnme, hts, hfr, hlc, hmc, hms, hK, hKC, -, hN⟩ := id F
  have hnm : s.vm.findClass "[I" = some (w.2.2.2.2 0) := (hK.2 0 (w.2.2.2.2 0, .int) rfl).2
  exact va_castA hx0 hb hown (hts _ hl) M.1 a (cA := w.2.2.2.2 0) (x := (n, .inl (u.2.1 a))) (by rw [kv_at ha, kv_ce_int hs]) hnm d (kk p e R s m args below meth c H locs cells slots mc ms arr F S M L c1 c2)
end KCLO
