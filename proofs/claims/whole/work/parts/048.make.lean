section KVMake
variable {w : KW} {l : Launch} {mm : KM} {dd nc ns pc : Nat} {ls : List (Option Value)} {rest : List Value} {u : KMem} {Q : Option Value → KMem → Prop}
theorem kv_adc {w : KW} (j : Nat) : kv_ad w (10000 + j) = w.2.1 j := by
  unfold kv_ad
  rw [if_neg (by omega), show 10000 + j - 10000 = j by omega]
/-- getstatic of a row -/
theorem kv_gets {idx : Nat} (j : Nat) {q : String × String × String × FieldType} {t : List Int32} (d : decode mm.2.1 pc = .ok (.getstatic idx, 3)) (hq : kv_stN[j]? = some q) (ht : kv_stT[j]? = some t) (hlk : Cond.fieldLink mm.1.cls idx q.1 q.2.1 q.2.2.1 ∈ kv_tb)
    (kk : KV w l mm dd nc ns (pc + 3) ls (.ref (10000 + j) :: rest) u Q) : KV w l mm dd nc ns pc ls rest u Q := by
  intro p e R s m args below meth c H locs cells slots mc ms arr F S M L c1 c2
  obtain ⟨hx, hb, hr, hlo, hml, hown, hnme, hts, hfr, hlc, hmc, hms, hK, hKC, -⟩ := id F
  refine va_gets hx hb (hKC.1 j q t hq ht).1 S hown (hts _ hlk) (fun _ h => h) d ?_
  have h := kk p e R s m args below meth c H locs cells slots mc ms arr F S M L c1 c2
  rw [List.map_cons, show kv_co w (.ref (10000 + j)) = .ref (w.2.1 j) from congrArg Value.ref (kv_adc j)] at h
  exact h
theorem kv_getsN {idx : Nat} (j : Nat) {q : String × String × String × FieldType} {t : List Int32} (d : decode mm.2.1 pc = .ok (.getstatic idx, 3)) (hq : kv_stN[j]? = some q) (ht : kv_stT[j]? = some t) (hlk : (mm.1.cls, idx, q.1, q.2.1, q.2.2.1) ∈ kv_nF)
    (kk : KV w l mm dd nc ns (pc + 3) ls (.ref (10000 + j) :: rest) u Q) : KV w l mm dd nc ns pc ls rest u Q := by
  intro p e R s m args below meth c H locs cells slots mc ms arr F S M L c1 c2
  obtain ⟨hx, hb, hr, hlo, hml, hown, hnme, hts, hfr, hlc, hmc, hms, hK, hKC, -, hN⟩ := id F
  refine va_getsN hx hb (hKC.1 j q t hq ht).1 S hown (va_Nw.use rfl (hN.1 _ hlk)) (fun _ h => h) d ?_
  have h := kk p e R s m args below meth c H locs cells slots mc ms arr F S M L c1 c2
  rw [List.map_cons, show kv_co w (.ref (10000 + j)) = .ref (w.2.1 j) from congrArg Value.ref (kv_adc j)] at h
  exact h
/-- a place of a static row -/
theorem kv_ildC {j k : Nat} {i : Int32} {q : String × String × String × FieldType} {t : List Int32} (d : decode mm.2.1 pc = .ok (.iaload, 1)) (hq : kv_stN[j]? = some q) (ht : kv_stT[j]? = some t) (hty : q.2.2.2 = .int) (hi : i = nI k) (hk : k < t.length) (hn : Nat.blt t.length 1000 = true)
    (kk : KV w l mm dd nc ns (pc + 1) ls (.int (t.getD k 0) :: rest) u Q) : KV w l mm dd nc ns pc ls (.int i :: .ref (10000 + j) :: rest) u Q := by
  intro p e R s m args below meth c H locs cells slots mc ms arr F S M L c1 c2
  have hn : t.length < 1000 := Nat.le_of_ble_eq_true hn
  obtain ⟨hx, hb, hr, hlo, hml, hown, hnme, hts, hfr, hlc, hmc, hms, hK, hKC, -⟩ := id F
  rw [List.map_cons, List.map_cons, show kv_co w (.ref (10000 + j)) = .ref (w.2.1 j) from congrArg Value.ref (kv_adc j)]
  have hT := (hKC.1 j q t hq ht).2
  rw [hty] at hT
  refine va_ti hx hb hT S (by rw [hi]; exact vp_in_nI hk (by omega)) (v := .int (t.getD k 0)) (by rw [hi, nI_clamp (by omega)]) d ?_
  exact kk p e R s m args below meth c H locs cells slots mc ms arr F S M L c1 c2
theorem kv_cldC {j k : Nat} {i : Int32} {q : String × String × String × FieldType} {t : List Int32} (d : decode mm.2.1 pc = .ok (.caload, 1)) (hq : kv_stN[j]? = some q) (ht : kv_stT[j]? = some t) (hty : q.2.2.2 = .char) (hi : i = nI k) (hk : k < t.length) (hn : Nat.blt t.length 1000 = true)
    (kk : KV w l mm dd nc ns (pc + 1) ls (.int (t.getD k 0) :: rest) u Q) : KV w l mm dd nc ns pc ls (.int i :: .ref (10000 + j) :: rest) u Q := by
  intro p e R s m args below meth c H locs cells slots mc ms arr F S M L c1 c2
  have hn : t.length < 1000 := Nat.le_of_ble_eq_true hn
  obtain ⟨hx, hb, hr, hlo, hml, hown, hnme, hts, hfr, hlc, hmc, hms, hK, hKC, -⟩ := id F
  rw [List.map_cons, List.map_cons, show kv_co w (.ref (10000 + j)) = .ref (w.2.1 j) from congrArg Value.ref (kv_adc j)]
  have hT := (hKC.1 j q t hq ht).2
  rw [hty] at hT
  refine va_tc hx hb hT S (by rw [hi]; exact vp_in_nI hk (by omega)) (v := .int (t.getD k 0)) (by rw [hi, nI_clamp (by omega)]) d ?_
  exact kk p e R s m args below meth c H locs cells slots mc ms arr F S M L c1 c2
theorem kv_lenC {j : Nat} {q : String × String × String × FieldType} {t : List Int32} (d : decode mm.2.1 pc = .ok (.arraylength, 1)) (hq : kv_stN[j]? = some q) (ht : kv_stT[j]? = some t)
    (kk : KV w l mm dd nc ns (pc + 1) ls (.int (nI t.length) :: rest) u Q) : KV w l mm dd nc ns pc ls (.ref (10000 + j) :: rest) u Q := by
  intro p e R s m args below meth c H locs cells slots mc ms arr F S M L c1 c2
  obtain ⟨hx, hb, hr, hlo, hml, hown, hnme, hts, hfr, hlc, hmc, hms, hK, hKC, -⟩ := id F
  rw [List.map_cons, show kv_co w (.ref (10000 + j)) = .ref (w.2.1 j) from congrArg Value.ref (kv_adc j)]
  refine va_tlen hx hb (hKC.1 j q t hq ht).2 S (v := nI t.length) rfl d ?_
  exact kk p e R s m args below meth c H locs cells slots mc ms arr F S M L c1 c2
/-- a text -/
theorem kv_ldcS {idx i : Nat} {q : Nat × String × List Int32} (d : decode mm.2.1 pc = .ok (.ldc idx, 2)) (hc : mm.1.cls = "KnockTableModel") (hq : kv_sx[i]? = some q) (hi : q.1 = idx)
    (kk : KV w l mm dd nc ns (pc + 2) ls (.ref (10100 + i) :: rest) u Q) : KV w l mm dd nc ns pc ls rest u Q := by
  intro p e R s m args below meth c H locs cells slots mc ms arr F S M L c1 c2
  obtain ⟨hx, hb, hr, hlo, hml, hown, hnme, hts, hfr, hlc, hmc, hms, hK, hKC, -⟩ := id F
  rw [hc] at hown
  subst hi
  refine va_ldcS hx hb hown (hKC.2.2.1 i q hq) d ?_
  have h := kk p e R s m args below meth c H locs cells slots mc ms arr F S M L c1 c2
  have e1 : kv_ad w (10100 + i) = w.2.1 (100 + i) := by
    have := kv_adc (w := w) (100 + i)
    rw [← this]
    congr 1
    omega
  rw [List.map_cons, show kv_co w (.ref (10100 + i)) = .ref (w.2.1 (100 + i)) from congrArg Value.ref e1] at h
  exact h
/-- System.arraycopy between rows of ints, all cells made -/
theorem kv_copy {a b i j n na nb idx : Nat} {xi xj xn : Int32} (hu : u.1 = 433) (d : decode mm.2.1 pc = .ok (.invokestatic idx, 3)) (hl : Cond.methodLink mm.1.cls idx arraycopyName ∈ kv_tb) (h0 : Cond.native arraycopyName ∈ kv_tb ∧ Cond.static arraycopyName ∈ kv_tb ∧ Cond.initialized "java/lang/System" ∈ kv_tb) (ha : a < u.1) (hb : b < u.1) (hsa : kv_sh a = (20, na)) (hsb : kv_sh b = (20, nb)) (hi : xi = nI i) (hj : xj = nI j) (hn : xn = nI n) (h1 : i + n ≤ na) (h2 : j + n ≤ nb) (h3 : Nat.blt na 100000 = true) (h4 : Nat.blt nb 100000 = true) (h8 : Nat.ble (kv_r8 rest) 8 = true) (hd : 1 ≤ dd)
    (kk : KV w l mm dd nc ns (pc + 3) ls rest (kv_cp u a i b j n) Q) : KV w l mm dd nc ns pc ls (.int xn :: .int xj :: .ref b :: .int xi :: .ref a :: rest) u Q := by
  intro p e R s m args below meth c H locs cells slots mc ms arr F S M L c1 c2
  have h3 : na < 100000 := Nat.le_of_ble_eq_true h3
  have h4 : nb < 100000 := Nat.le_of_ble_eq_true h4
  have h8 : kv_r8 rest ≤ 8 := Nat.le_of_ble_eq_true h8
  obtain ⟨hx, hbb, hr, hlo, hml, hown, hnme, hts, hfr, hlc, hmc, hms, hK, hKC, -⟩ := id F
  have ei : xi.toNatClampNeg = i := by rw [hi, nI_clamp (by omega)]
  have ej : xj.toNatClampNeg = j := by rw [hj, nI_clamp (by omega)]
  have en : xn.toNatClampNeg = n := by rw [hn, nI_clamp (by omega)]
  refine va_copyi (D := kv_G w) (ty := .int) hx hbb (hml.trans L.1.symm) hown (hts _ hl) (hts _ h0.1) (hts _ h0.2.1) (hts _ h0.2.2) hK M.1 (kv_D w u M.2.2) S a b 0 0 (f := u.2.1 a) (g := u.2.1 b) (n0 := na) (n1 := nb) (c0 := w.2.2.2.2 0) (c1 := w.2.2.2.2 0) (by rw [kv_at ha, kv_ce_int hsa]) (by rw [kv_at hb, kv_ce_int hsb]) rfl rfl rfl (sp := xi) (dp := xj) (n := xn) (by rw [hi]; exact nI_pos (by omega)) (by rw [hj]; exact nI_pos (by omega)) (by rw [hn]; exact nI_pos (by omega)) (by rw [ei, en]; exact h1) (by rw [ej, en]; exact h2) (fun _ _ => rfl) (by omega) ?_ d (fun H1 locs1 hP hD hS => ?_)
  · rw [kv_r8_eq]
    have : nativeFrameWords "java/lang/System" "arraycopy" 5 ≤ 40 := by decide +kernel
    omega
  · rw [ei, ej, en] at hP
    have e0 : (kv_ws w u).set b (kv_ad w b, .inl (w.2.2.2.2 0, nb, .inl (va_cpy (u.2.1 a) (u.2.1 b) i j n))) = kv_ws w (kv_cp u a i b j n) := by
      refine kv_ws_set rfl hb ?_ (fun x hx => kv_ce_congr (fun k => if_neg hx) (fun _ => rfl) (fun _ => rfl))
      rw [kv_ce_int hsb]
      congr 4
      funext k
      by_cases hk : j ≤ k ∧ k < j + n
      · rw [pk_cpy_in hk.1 hk.2]
        simp [kv_cp, hk]
      · rw [pk_cpy_out (by omega)]
        simp [kv_cp, hk]
    rw [e0] at hP
    exact kk p e R s m args below meth c H1 locs1 cells slots mc ms arr F hS ⟨hP, Or.inl hu, M.2.2⟩ L c1 c2
/-! the making of cells -/
theorem kv_Hal {H H1 : Heap} (M : kv_H w u H) (hu : u.1 < 433) (he : va_at (kv_G w) vwCl (kv_ad w u.1, kv_ce w (kv_al u) u.1) H1) (hz : H1.size = H.size + 1) (oq : ∀ q : Nat, q < H.size → H1[q]? = H[q]?) : kv_H w (kv_al u) H1 := by
  have hsz : H.size = w.1 + u.1 := by
    rcases M.2.1 with h | h
    · omega
    · exact h
  refine ⟨fun k q hk => ?_, Or.inr (by rw [hz, hsz]; rfl), hu⟩
  by_cases hk1 : k < u.1
  · have h0 := M.1 k _ (kv_at hk1)
    have hk2 : k < (kv_al u).1 := Nat.lt_succ_of_lt hk1
    rw [kv_at hk2] at hk
    cases hk
    have hne : k ≠ u.1 := Nat.ne_of_lt hk1
    have e1 : kv_ce w (kv_al u) k = kv_ce w u k := kv_ce_congr (fun j => if_neg hne) (fun j => if_neg hne) (fun j => if_neg hne)
    rw [e1]
    refine h0.kept (oq _ ?_)
    show kv_ad w k < H.size
    rw [kv_adl (by omega), hsz]
    omega
  · by_cases hk2 : k = u.1
    · subst hk2
      rw [kv_at (u := kv_al u) (Nat.lt_succ_self _)] at hk
      cases hk
      exact he
    · rw [List.getElem?_eq_none (by unfold kv_ws; simp [kv_al]; omega)] at hk
      cases hk
theorem kv_Sal {H0 H H1 : Heap} {locs : List Loc} (S : va_S (kv_A w) H0 H locs) (hz : H1.size = H.size + 1) (oq : ∀ q : Nat, q < H.size → H1[q]? = H[q]?) : va_S (kv_A w) H0 H1 locs :=
  ⟨Nat.le_trans S.1 (by omega), fun x h1 h2 => (oq x (Nat.lt_of_lt_of_le h1 S.1)).trans (S.2.1 x h1 h2), S.2.2⟩
theorem kv_sz {H : Heap} (M : kv_H w u H) (hu : u.1 < 433) : H.size = kv_ad w u.1 := by
  rw [kv_adl (by omega)]
  rcases M.2.1 with h | h
  · omega
  · exact h
theorem kv_new {idx ci n : Nat} {C : String} {T : u_T} {ty0 : Nat → FieldType} (d : decode mm.2.1 pc = .ok (.new idx, 3)) (hcl : kv_CL ci C T n ty0) (hlk : Cond.classLink mm.1.cls idx C ∈ kv_tb) (hin : Cond.instantiable C n ∈ kv_tb) (hini : Cond.initialized C ∈ kv_tb) (hs : kv_sh u.1 = (ci, n)) (hu : u.1 < 433) (hdf : ∀ k, k < n → defaultValue (ty0 k) = if kv_ir ci k then .null else .int 0) (h1 : 1 ≤ nc) (h2 : n ≤ ns)
    (kk : KV w l mm dd (nc - 1) (ns - n) (pc + 3) ls (.ref u.1 :: rest) (kv_al u) Q) : KV w l mm dd nc ns pc ls rest u Q := by
  intro p e R s m args below meth c H locs cells slots mc ms arr F S M L c1 c2
  obtain ⟨hx, hb, hr, hlo, hml, hown, hnme, hts, hfr, hlc, hmc, hms, hK, hKC, -⟩ := id F
  obtain ⟨hc, hinw, hty, hnm, hci⟩ := hcl
  have hKn := hK.1 ci _ hc
  refine W.newcK hx hb hown (hts _ hlk) (hts _ hin) (hts _ hini) rfl d (by omega) (by omega) hKn.2.1 (kv_sz M hu) (fun H1 kC hkC e1 z1 o1 => ?_)
  rw [← kv_sz M hu] at z1 o1
  refine kk p e R s m args below meth c H1 locs (cells + 1) (slots + n) mc ms arr F (kv_Sal S z1 o1) (kv_Hal M hu ?_ z1 o1) L (by omega) (by omega)
  rw [kv_ce_obj hs hci]
  refine ⟨_, hc, (u_born ty0 hts hinw hKn hkC e1 hty).to (fun k hk => ?_)⟩
  show defaultValue (ty0 k) = _
  rw [hdf k hk, vp_V, List.getD_eq_getElem?_getD, kv_rg hk]
  unfold kv_fv kv_al
  simp
  split <;> rfl
theorem kv_newI {n : Nat} {x : Int32} (d : decode mm.2.1 pc = .ok (.newarray .int, 2)) (hw : Cond.arrayClass .int ∈ kv_tb) (hs : kv_sh u.1 = (20, n)) (hu : u.1 < 433) (hx : x = nI n) (hn : Nat.blt n 100000 = true) (h1 : 1 ≤ nc) (h2 : n ≤ ns)
    (kk : KV w l mm dd (nc - 1) (ns - n) (pc + 2) ls (.ref u.1 :: rest) (kv_al u) Q) : KV w l mm dd nc ns pc ls (.int x :: rest) u Q := by
  intro p e R s m args below meth c H locs cells slots mc ms arr F S M L c1 c2
  have hn : n < 100000 := Nat.le_of_ble_eq_true hn
  obtain ⟨hx0, hb, hr, hlo, hml, hown, hnme, hts, hfr, hlc, hmc, hms, hK, hKC, -⟩ := id F
  refine va_newaK (atype := .int) hx0 hb (hts _ hw) rfl d rfl (n := x) (N := n) (by rw [hx]; exact nI_pos (by omega)) (by rw [hx, nI_clamp (by omega)]) (by show n * 4 ≤ 536870912; omega) (by omega) (by omega) (kv_sz M hu) (fun H1 cA e1 z1 o1 hA hN => ?_)
  rw [← kv_sz M hu] at z1 o1
  have hcA : cA = w.2.2.2.2 0 := by
    have h0 : s.vm.findClass ("[" ++ FieldType.int.toString) = some (w.2.2.2.2 0) := (hK.2 0 (w.2.2.2.2 0, .int) rfl).2
    exact Option.some.inj (hN.symm.trans h0)
  subst hcA
  refine kk p e R s m args below meth c H1 locs (cells + 1) (slots + n) mc ms arr F (kv_Sal S z1 o1) (kv_Hal M hu ?_ z1 o1) L (by omega) (by omega)
  rw [kv_ce_int hs]
  show H1[kv_ad w u.1]? = some (vp_cell _ _)
  rw [e1, vp_cell_i]
  congr 2
  funext k
  simp [kv_al, defaultValue, newarray.typeOf]
theorem kv_newL {n : Nat} {x : Int32} (d : decode mm.2.1 pc = .ok (.newarray .long, 2)) (hw : Cond.arrayClass .long ∈ kv_tb) (hs : kv_sh u.1 = (21, n)) (hu : u.1 < 433) (hx : x = nI n) (hn : Nat.blt n 100000 = true) (h1 : 1 ≤ nc) (h2 : n ≤ ns)
    (kk : KV w l mm dd (nc - 1) (ns - n) (pc + 2) ls (.ref u.1 :: rest) (kv_al u) Q) : KV w l mm dd nc ns pc ls (.int x :: rest) u Q := by
  intro p e R s m args below meth c H locs cells slots mc ms arr F S M L c1 c2
  have hn : n < 100000 := Nat.le_of_ble_eq_true hn
  obtain ⟨hx0, hb, hr, hlo, hml, hown, hnme, hts, hfr, hlc, hmc, hms, hK, hKC, -⟩ := id F
  refine va_newaK (atype := .long) hx0 hb (hts _ hw) rfl d rfl (n := x) (N := n) (by rw [hx]; exact nI_pos (by omega)) (by rw [hx, nI_clamp (by omega)]) (by show n * 8 ≤ 536870912; omega) (by omega) (by omega) (kv_sz M hu) (fun H1 cA e1 z1 o1 hA hN => ?_)
  rw [← kv_sz M hu] at z1 o1
  have hcA : cA = w.2.2.2.2 1 := by
    have h0 : s.vm.findClass ("[" ++ FieldType.long.toString) = some (w.2.2.2.2 1) := (hK.2 1 (w.2.2.2.2 1, .long) rfl).2
    exact Option.some.inj (hN.symm.trans h0)
  subst hcA
  refine kk p e R s m args below meth c H1 locs (cells + 1) (slots + n) mc ms arr F (kv_Sal S z1 o1) (kv_Hal M hu ?_ z1 o1) L (by omega) (by omega)
  rw [kv_ce_long hs]
  show H1[kv_ad w u.1]? = some (vp_cell _ _)
  rw [e1, vp_cell_l]
  congr 2
  funext k
  simp [kv_al, defaultValue, newarray.typeOf]
end KVMake
