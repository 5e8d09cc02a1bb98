/-! calls -/
theorem kv_in {x : Cond} (h : x ∈ lw_tbl) (g : goodWord x = true) : x ∈ kv_tb := List.mem_filter.mpr ⟨h, g⟩
theorem kv_good : ∀ x ∈ kv_tb, (x.onTables && x.keeps) = true ∨ ∃ ty, x = .arrayClass ty := fun x h => good_of_word (List.mem_filter.mp h).2
/-- what the tables say of a method that may be called -/
def kv_MB (m : KM) (n : Nat) : Prop := kv_cw m ∈ kv_tb ∧ Cond.initialized m.1.cls ∈ kv_tb ∧ (m.1.cls ≠ "java/lang/invoke/MethodHandle" ∧ m.1.cls ≠ "java/lang/invoke/VarHandle") ∧ (parseMethodDescriptor m.1.desc).map (fun d => d.parameters.length) = some n ∧ m.2.2.1 ≤ 80
def kv_MI (m : KM) (n : Nat) : Prop := kv_MB m n ∧ Cond.instanceMethod m.1 ∈ kv_tb ∧ Cond.selects m.1.cls m.1 m.1 ∈ kv_tb
def kv_MS (m : KM) (n : Nat) : Prop := kv_MB m n ∧ Cond.static m.1 ∈ kv_tb
def kv_MC (m : KM) (n : Nat) : Prop := kv_MB m n ∧ Cond.instanceMethod m.1 ∈ kv_tb ∧ m.1.name = "<init>" ∧ m.2.2.2 = none
def kv_r8 : List Value → Nat
  | [] => 0
  | v :: t => v.category + kv_r8 t
theorem kv_r8_eq {w : KW} : ∀ st : List Value, ((st.map (kv_co w)).map fun v => v.category).sum = kv_r8 st
  | [] => rfl
  | v :: t => by
    have h := kv_r8_eq (w := w) t
    simp only [List.map_cons, List.sum_cons, kv_r8, kv_co_cat] at h ⊢
    rw [h]
section KVCall
variable {w : KW} {l : Launch} {mm : KM} {dd nc ns pc : Nat} {ls : List (Option Value)} {rest : List Value} {u : KMem} {Q : Option Value → KMem → Prop}
variable {p : Program} {e : Env} {R : Room} {s : State} {m : MethodId} {args : Array Value} {below : List Frame} {meth : Method} {c : Code} {H : Heap} {locs : List Loc} {cells slots mc ms : Nat} {arr : Array Slot}
theorem kv_cb {m2 : KM} {d2 nc2 ns2 n idx : Nat} (F : kv_Fx w mm dd p R s m args meth c mc ms) (hm : kv_MB m2 n) (hl : Cond.methodLink mm.1.cls idx m2.1 ∈ kv_tb) (hd : d2 + 1 ≤ dd) : CallB R s args mm.1.cls idx m2.1 m2.2.1 m2.2.2.1 m2.2.2.2 (kv_cw m2 :: kv_tb) (kv_rm d2 nc2 ns2) nc2 ns2 n := by
  obtain ⟨hx, hb, hr, hlo, hml, hown, hnme, hts, hfr, hlc, hmc, hms, hK, hKC⟩ := F
  obtain ⟨h1, h2, h3, h4, h5⟩ := hm
  refine callB_of n hts (fun x hx => ?_) rfl rfl rfl (hts _ h2) (hts _ hl) ⟨h3.1, h3.2, h4⟩ ⟨by show d2 + 1 ≤ R.frames; omega, by show 8 + (m2.2.2.1 + 11) + 100 * d2 ≤ R.locals; omega⟩
  rcases List.mem_cons.mp hx with rfl | hx
  · exact ⟨h1, kv_good _ h1⟩
  · exact ⟨hx, kv_good _ hx⟩
theorem kv_cn {m2 : KM} {d2 nc2 ns2 n idx : Nat} (F : kv_Fx w mm dd p R s m args meth c mc ms) (hm : kv_MB m2 n) (hl : (mm.1.cls, idx, m2.1) ∈ kv_nM) (hd : d2 + 1 ≤ dd) : va_CN R s args mm.1.cls idx m2.1 "KnockTable" m2.2.1 m2.2.2.1 m2.2.2.2 (kv_cw m2 :: kv_tb) (kv_rm d2 nc2 ns2) nc2 ns2 n := by
  obtain ⟨hx, hb, hr, hlo, hml, hown, hnme, hts, hfr, hlc, hmc, hms, hK, hKC, -, hN⟩ := F
  obtain ⟨h1, h2, h3, h4, h5⟩ := hm
  have hG : GoodIn kv_tb (kv_cw m2 :: kv_tb) := fun x hx => by
    rcases List.mem_cons.mp hx with rfl | hx
    · exact ⟨h1, kv_good _ h1⟩
    · exact ⟨hx, kv_good _ hx⟩
  refine ⟨⟨rfl, rfl, by show d2 + 1 ≤ R.frames; omega, by show 8 + (m2.2.2.1 + 11) + 100 * d2 ≤ R.locals; omega, pay_in hts hG, List.mem_cons_self⟩, hts _ h1, hts _ h2, h3, fun sig h => ?_, va_Nw.use rfl (hN.2.1 _ hl)⟩
  rw [h] at h4
  exact (Option.some.inj h4).symm
theorem kv_pre {as : List Value} (F : kv_Fx w mm dd p R s m args meth c mc ms) (S : va_S (kv_A w) s.heap H locs) (M : kv_H w u H) : PreS s H (va_Pc (as.map (kv_co w)) (fun U => kv_K w U ∧ kv_H w u U.heap)) (as.map (kv_co w)) := by
  obtain ⟨hx, hb, hr, hlo, hml, hown, hnme, hts, hfr, hlc, hmc, hms, hK⟩ := F
  refine ⟨fun a U g mk q => ⟨q.1, q.2.1.blind g mk a, q.2.2⟩, fun U hU hW => ⟨rfl, ?_, by rw [hU]; exact M⟩⟩
  exact kv_K.to (locs := locs) hW (by rw [hU]; exact S) hK
/-- behind the call -/
theorem kv_aft {d2 nc2 ns2 : Nat} {av : Array Value} {st0 : List Value} {Q2 : Option Value → KMem → Prop} (F : kv_Fx w mm dd p R s m args meth c mc ms) (S : va_S (kv_A w) s.heap H locs) (L : lv_has arr mm.2.2.1 (kv_ll w 0 ls)) (c1 : cells + nc ≤ mc) (c2 : slots + ns ≤ ms) (h1 : nc2 ≤ nc) (h2 : ns2 ≤ ns)
    (hr : va_Run p l e R s m args below meth c H locs cells slots nc2 ns2 (F0 m pc arr st0) (rest.map (kv_co w)) (kv_Qc w Q2 av) (kv_A w))
    (kk : ∀ (r : Option Value) (v : KMem), Q2 r v → KV w l mm dd (nc - nc2) (ns - ns2) (pc + 3) ls (r.toList ++ rest) v Q) : W p l e R s m args below meth c H locs cells slots (MQ below (kv_Qc w Q) args s mc ms (kv_A w)) (F0 m pc arr st0) := by
  intro T hT X
  obtain ⟨v, st₀, t, T', L1, h0, X', hL, e1, e2, ⟨⟨r, v2, hv, hq, hH⟩, hz, hk⟩, st⟩ := hr T hT X
  cases hv
  rw [h0] at hz hk
  have hS2 : va_S (kv_A w) s.heap T'.heap (locs ++ L1) := ⟨Nat.le_trans S.1 (by rw [e1]; exact hz), fun q g1 g2 => by rw [e1, hk q (Nat.lt_of_lt_of_le g1 S.1) g2]; exact S.2.1 q g1 g2, fun q hq => by
      rcases List.mem_append.mp hq with h | h
      · exact S.2.2 q h
      · exact hL q h⟩
  obtain ⟨t2, a1, b1⟩ := kk r v2 hq p e R s m args below meth c T'.heap (locs ++ L1) (cells + nc2) (slots + ns2) mc ms arr F hS2 (by rw [e1]; exact hH) L (by omega) (by omega) T' rfl X'
  refine ⟨t2, st t2 ?_, b1⟩
  cases r <;> exact a1
end KVCall
section KVCall2
variable {w : KW} {l : Launch} {mm : KM} {dd nc ns pc : Nat} {ls : List (Option Value)} {rest : List Value} {u : KMem} {Q : Option Value → KMem → Prop}
/-- the receiver is an object of the class C -/
def kv_rcv (w : KW) (u : KMem) (b : Nat) (C : String) : Prop := (∃ (ci n : Nat) (T : u_T) (N : Nat), b < u.1 ∧ kv_sh b = (ci, n) ∧ ci < 20 ∧ vwCl[ci]? = some (C, T, N)) ∨ (∃ i, i < 18 ∧ b = 10100 + i ∧ C = "java/lang/String")
theorem kv_callV (as : List Value) {m2 : KM} {d2 nc2 ns2 n idx b : Nat} {Q2 : Option Value → KMem → Prop} (d : decode mm.2.1 pc = .ok (.invokevirtual idx, 3)) (hl : Cond.methodLink mm.1.cls idx m2.1 ∈ kv_tb) (hm : kv_MI m2 n) (hc : KC w l m2 d2 nc2 ns2 (.ref b :: as) u Q2) (hrv : kv_rcv w u b m2.1.cls) (hn : as.length = n) (h8 : Nat.ble (kv_r8 rest) 8 = true) (hd : d2 + 1 ≤ dd) (h1 : nc2 ≤ nc) (h2 : ns2 ≤ ns)
    (kk : ∀ (r : Option Value) (v : KMem), Q2 r v → KV w l mm dd (nc - nc2) (ns - ns2) (pc + 3) ls (r.toList ++ rest) v Q) : KV w l mm dd nc ns pc ls (as.reverse ++ .ref b :: rest) u Q := by
  intro p e R s m args below meth c H locs cells slots mc ms arr F S M L c1 c2
  have h8 : kv_r8 rest ≤ 8 := Nat.le_of_ble_eq_true h8
  have hp := kv_pre (as := .ref b :: as) F S M
  have hcb := kv_cb (d2 := d2) (nc2 := nc2) (ns2 := ns2) F hm.1 hl hd
  obtain ⟨hx, hb, hr, hlo, hml, hown, hnme, hts, hfr, hlc, hmc, hms, hK, hKC, -⟩ := id F
  have hrv2 : ∃ cellB : Cell, H[kv_ad w b]? = some cellB ∧ cellB.vm.isStatics = false ∧ s.vm.findClass m2.1.cls = some cellB.cls := by
    rcases hrv with ⟨ci, n, T, N, hb1, hsh, hci, hcl⟩ | ⟨i, hi, hb1, hC⟩
    · exact va_recv hK M.1 hcl (q0 := b) (by rw [kv_at hb1, kv_ce_obj hsh hci])
    · obtain ⟨cell, g1, g2, g3⟩ := vk_recv hKC.2.1 hi S
      rw [hC, hb1]
      refine ⟨cell, ?_, g2, g3⟩
      rw [show kv_ad w (10100 + i) = w.2.1 (100 + i) from by unfold kv_ad; rw [if_neg (by omega), show 10100 + i - 10000 = 100 + i by omega]]
      exact g1
  have hst : ((as.reverse ++ Value.ref b :: rest).map (kv_co w)) = (as.map (kv_co w)).reverse ++ .ref (kv_ad w b) :: rest.map (kv_co w) := by simp [kv_co]
  refine kv_aft (d2 := d2) F S L c1 c2 h1 h2 (va_runV (Ts := kv_tb) (As := as.map (kv_co w)) (b := kv_ad w b) ⟨hx, hb, hml, hown, hts⟩ hc ⟨hcb, hts _ hm.2.1, hts _ hm.2.2⟩ ⟨hp.1, hrv2, hp.2⟩ rfl (by simpa using hn) L.1 hst ?_ d ⟨by omega, by omega⟩) kk
  show 2 * 0 + _ ≤ 8
  rw [kv_r8_eq]
  omega
theorem kv_callS (as : List Value) {m2 : KM} {d2 nc2 ns2 n idx : Nat} {Q2 : Option Value → KMem → Prop} (d : decode mm.2.1 pc = .ok (.invokestatic idx, 3)) (hl : Cond.methodLink mm.1.cls idx m2.1 ∈ kv_tb) (hm : kv_MS m2 n) (hc : KC w l m2 d2 nc2 ns2 as u Q2) (hn : as.length = n) (h8 : Nat.ble (kv_r8 rest) 8 = true) (hd : d2 + 1 ≤ dd) (h1 : nc2 ≤ nc) (h2 : ns2 ≤ ns)
    (kk : ∀ (r : Option Value) (v : KMem), Q2 r v → KV w l mm dd (nc - nc2) (ns - ns2) (pc + 3) ls (r.toList ++ rest) v Q) : KV w l mm dd nc ns pc ls (as.reverse ++ rest) u Q := by
  intro p e R s m args below meth c H locs cells slots mc ms arr F S M L c1 c2
  have h8 : kv_r8 rest ≤ 8 := Nat.le_of_ble_eq_true h8
  have hp := kv_pre (as := as) F S M
  have hcb := kv_cb (d2 := d2) (nc2 := nc2) (ns2 := ns2) F hm.1 hl hd
  obtain ⟨hx, hb, hr, hlo, hml, hown, hnme, hts, hfr, hlc, hmc, hms, hK, hKC, -⟩ := id F
  have hst : ((as.reverse ++ rest).map (kv_co w)) = (as.map (kv_co w)).reverse ++ rest.map (kv_co w) := by simp
  refine kv_aft (d2 := d2) F S L c1 c2 h1 h2 (va_runS (Ts := kv_tb) (As := as.map (kv_co w)) ⟨hx, hb, hml, hown, hts⟩ hc ⟨hcb, hts _ hm.2⟩ hp rfl (by simpa using hn) L.1 hst ?_ d ⟨by omega, by omega⟩) kk
  show 2 * 0 + _ ≤ 8
  rw [kv_r8_eq]
  omega
theorem kv_callSN (as : List Value) {m2 : KM} {d2 nc2 ns2 n idx : Nat} {Q2 : Option Value → KMem → Prop} (d : decode mm.2.1 pc = .ok (.invokestatic idx, 3)) (hl : (mm.1.cls, idx, m2.1) ∈ kv_nM) (hm : kv_MS m2 n) (hc : KC w l m2 d2 nc2 ns2 as u Q2) (hn : as.length = n) (h8 : Nat.ble (kv_r8 rest) 8 = true) (hd : d2 + 1 ≤ dd) (h1 : nc2 ≤ nc) (h2 : ns2 ≤ ns)
    (kk : ∀ (r : Option Value) (v : KMem), Q2 r v → KV w l mm dd (nc - nc2) (ns - ns2) (pc + 3) ls (r.toList ++ rest) v Q) : KV w l mm dd nc ns pc ls (as.reverse ++ rest) u Q := by
  intro p e R s m args below meth c H locs cells slots mc ms arr F S M L c1 c2
  have h8 : kv_r8 rest ≤ 8 := Nat.le_of_ble_eq_true h8
  have hp := kv_pre (as := as) F S M
  have hcb := kv_cn (d2 := d2) (nc2 := nc2) (ns2 := ns2) F hm.1 hl hd
  obtain ⟨hx, hb, hr, hlo, hml, hown, hnme, hts, hfr, hlc, hmc, hms, hK, hKC, -⟩ := id F
  have hst : ((as.reverse ++ rest).map (kv_co w)) = (as.map (kv_co w)).reverse ++ rest.map (kv_co w) := by simp
  refine kv_aft (d2 := d2) F S L c1 c2 h1 h2 (va_runSN (Ts := kv_tb) (As := as.map (kv_co w)) ⟨hx, hb, hml, hown, hts⟩ hc ⟨hcb, hts _ hm.2, trivial⟩ hp rfl (by simpa using hn) L.1 hst ?_ d ⟨by omega, by omega⟩) kk
  show 2 * 0 + _ ≤ 8
  rw [kv_r8_eq]
  omega
theorem kv_callI (as : List Value) {y2 : MethodName} {b2 : ByteArray} {n2 : Nat} {d2 nc2 ns2 n idx b : Nat} {Q2 : Option Value → KMem → Prop} (d : decode mm.2.1 pc = .ok (.invokespecial idx, 3)) (hl : Cond.methodLink mm.1.cls idx y2 ∈ kv_tb) (hm : kv_MC (y2, b2, n2, none) n) (hc : KC w l (y2, b2, n2, none) d2 nc2 ns2 (.ref b :: as) u Q2) (hn : as.length = n) (h8 : Nat.ble (kv_r8 rest) 8 = true) (hd : d2 + 1 ≤ dd) (h1 : nc2 ≤ nc) (h2 : ns2 ≤ ns)
    (kk : ∀ (r : Option Value) (v : KMem), Q2 r v → KV w l mm dd (nc - nc2) (ns - ns2) (pc + 3) ls (r.toList ++ rest) v Q) : KV w l mm dd nc ns pc ls (as.reverse ++ .ref b :: rest) u Q := by
  intro p e R s m args below meth c H locs cells slots mc ms arr F S M L c1 c2
  have h8 : kv_r8 rest ≤ 8 := Nat.le_of_ble_eq_true h8
  have hp := kv_pre (as := .ref b :: as) F S M
  have hcb := kv_cb (d2 := d2) (nc2 := nc2) (ns2 := ns2) F hm.1 hl hd
  obtain ⟨hx, hb, hr, hlo, hml, hown, hnme, hts, hfr, hlc, hmc, hms, hK, hKC, -⟩ := id F
  have hst : ((as.reverse ++ Value.ref b :: rest).map (kv_co w)) = (as.map (kv_co w)).reverse ++ .ref (kv_ad w b) :: rest.map (kv_co w) := by simp [kv_co]
  refine kv_aft (d2 := d2) F S L c1 c2 h1 h2 (va_runI (Ts := kv_tb) (As := as.map (kv_co w)) (b := kv_ad w b) ⟨hx, hb, hml, hown, hts⟩ hc ⟨hcb, hm.2.2.1, hts _ hm.2.1⟩ hp rfl (by simpa using hn) L.1 hst ?_ d ⟨by omega, by omega⟩) kk
  show 2 * 0 + _ ≤ 8
  rw [kv_r8_eq]
  omega
theorem kv_callIN (as : List Value) {y2 : MethodName} {b2 : ByteArray} {n2 : Nat} {d2 nc2 ns2 n idx b : Nat} {Q2 : Option Value → KMem → Prop} (d : decode mm.2.1 pc = .ok (.invokespecial idx, 3)) (hl : (mm.1.cls, idx, y2) ∈ kv_nM) (hm : kv_MC (y2, b2, n2, none) n) (hc : KC w l (y2, b2, n2, none) d2 nc2 ns2 (.ref b :: as) u Q2) (hn : as.length = n) (h8 : Nat.ble (kv_r8 rest) 8 = true) (hd : d2 + 1 ≤ dd) (h1 : nc2 ≤ nc) (h2 : ns2 ≤ ns)
    (kk : ∀ (r : Option Value) (v : KMem), Q2 r v → KV w l mm dd (nc - nc2) (ns - ns2) (pc + 3) ls (r.toList ++ rest) v Q) : KV w l mm dd nc ns pc ls (as.reverse ++ .ref b :: rest) u Q := by
  intro p e R s m args below meth c H locs cells slots mc ms arr F S M L c1 c2
  have h8 : kv_r8 rest ≤ 8 := Nat.le_of_ble_eq_true h8
  have hp := kv_pre (as := .ref b :: as) F S M
  have hcb := kv_cn (d2 := d2) (nc2 := nc2) (ns2 := ns2) F hm.1 hl hd
  obtain ⟨hx, hb, hr, hlo, hml, hown, hnme, hts, hfr, hlc, hmc, hms, hK, hKC, -⟩ := id F
  have hst : ((as.reverse ++ Value.ref b :: rest).map (kv_co w)) = (as.map (kv_co w)).reverse ++ .ref (kv_ad w b) :: rest.map (kv_co w) := by simp [kv_co]
  refine kv_aft (d2 := d2) F S L c1 c2 h1 h2 (va_runIN (Ts := kv_tb) (As := as.map (kv_co w)) (b := kv_ad w b) ⟨hx, hb, hml, hown, hts⟩ hc ⟨hcb, hm.2.2.1, hts _ hm.2.1⟩ hp rfl (by simpa using hn) L.1 hst ?_ d ⟨by omega, by omega⟩) kk
  show 2 * 0 + _ ≤ 8
  rw [kv_r8_eq]
  omega
theorem KC.post {m2 : KM} {as : List Value} {d2 : Nat} {Q2 Q3 : Option Value → KMem → Prop} (h : KC w l m2 d2 nc ns as u Q2) (hq : ∀ r v, Q2 r v → Q3 r v) : KC w l m2 d2 nc ns as u Q3 := by
  intro p e ha hc hk s m args below hf happ hP hT
  obtain ⟨k, o, h1, h2, h3, ⟨⟨⟨r, v, g1, g2, g3⟩, g4⟩, h5⟩⟩ := h p e ha hc hk s m args below hf happ hP hT
  exact ⟨k, o, h1, h2, h3, ⟨⟨⟨r, v, g1, hq r v g2, g3⟩, g4⟩, h5⟩⟩
end KVCall2
