/-! THE LAW: its end, and its judgement KL (KV with the script, and the law's own end). The first rows are the kit's skeleton as it stands. -/
/-! THE CLAIM OUT OF ONE WALK OF THE LAW'S BODY. Your part is whole_start (and what it stands on); all else here is the same for every law, but numbers. -/
def R_law : String := "KnockTableLaw"
def lw_P (b : Addr) (xs : List Int32) (args : Array Value) (s : State) : Prop := args = #[.ref b] ∧ s.IntsAt b xs ∧ xs.length ≤ 384 ∧ (Jvm.Cond.and given_1 narrow_1).before args s = true
def lw_Q (_ : Array Value) (s : State) (o : Outcome) (t : State) : Prop := o = .returned (some (.int 1)) ∧ Framed s o t [] 600000 7302250
def lw_Z (below : List Frame) (a : Array Value) (s : State) : State → Prop := fun t => ∃ o, t.status = .running ∧ Ended t below o ∧ lw_Q a s o t
/-- the law's own end, with 1 on the stack, nothing written that was there before, its room as the claim has it -/
theorem lw_ret {p : Program} {l : Launch} {e : Env} {s : State} {m : MethodId} {below : List Frame} {meth : Method} {c : Code} {b : Nat} (hx : p.tables.exec = Jvm.exec) (hb : c.code = code) (hr : meth.sig.returnType = ret) (hlocks : meth.locks = false) {pc : Nat} {H : Heap} {ls : Array Slot} (hdg : decode code pc = .ok (.ireturn, 1)) : W p l e room_1 s m #[Value.ref b] below meth c H [] 600000 7302250 (lw_Z below #[Value.ref b] s) (F0 m pc ls [.int 1]) := by
  intro T hT X
  obtain ⟨fs, hret, hrun, hended, hW, hframe⟩ := X.leave (v := some (.int 1)) (hlocks := hlocks) (fun h => by rw [hr] at h; cases h)
  have hmeth' : T.vm.method? m = some meth := X.method'
  refine ⟨T.setFrames fs, ?_, .returned (some (.int 1)), hrun, hended, rfl, ⟨_, rfl⟩, hW, hframe⟩
  jvm_step X.here [X.here.top, hx, hb, hdg, hmeth', hr, ret, narrow_b1]
  (try refine ⟨rfl, ?_⟩); (try refine ⟨rfl, ?_⟩)
  first | (intro acts; rw [hret _ acts rfl rfl rfl]) | rw [hret _ _ rfl rfl rfl]
  exact Steps.refl _
/-- what holds at the law's entry: the machine, the code, the tables' words (any of lw_tbl by 'hts w (by decide +kernel)'), the script of L ints xs at the cell b, what the Statement gives of the start (any of its parts by flat_of_before) -/
def lw_At (p : Program) (s : State) (m : MethodId) (meth : Method) (c : Code) (b L : Nat) (xs : Nat → Int32) : Prop :=
  p.tables.exec = Jvm.exec ∧ c.code = code ∧ meth.sig.returnType = ret ∧ c.maxLocals = 4 ∧ s.vm.findClass R_law = some m.cls ∧ (∀ w ∈ lw_tbl, w.before #[Value.ref b] s = true) ∧ va_X b L xs s s.heap ∧ b < s.heap.size ∧ meth.locks = false ∧ (Jvm.Cond.and given_1 narrow_1).before #[Value.ref b] s = true
/-- what stands at the law's entry, beside kv_Fx: the script of N ints xs lies at the constant 10300 -/
def kl_Cx (w : KW) (N : Nat) (xs : Nat → Int32) (R : Room) (s : State) (args : Array Value) (mc ms : Nat) : Prop := R = room_1 ∧ args = #[Value.ref (w.2.1 300)] ∧ va_X (w.2.1 300) N xs s s.heap ∧ w.2.1 300 < s.heap.size ∧ w.1 = s.heap.size ∧ mc = 600000 ∧ ms = 7302250
def KL (w : KW) (l : Launch) (mm : KM) (dd nc ns : Nat) (pc : Nat) (ls : List (Option Value)) (st : List Value) (u : KMem) (xs : Nat → Int32) (N : Nat) : Prop :=
  ∀ (p : Program) (e : Env) (R : Room) (s : State) (m : MethodId) (args : Array Value) (below : List Frame) (meth : Method) (c : Code) (H : Heap) (locs : List Loc) (cells slots mc ms : Nat) (arr : Array Slot), kl_Cx w N xs R s args mc ms →
    kv_Fx w mm dd p R s m args meth c mc ms → va_S (kv_A w) s.heap H locs → kv_H w u H → lv_has arr mm.2.2.1 (kv_ll w 0 ls) → cells + nc ≤ mc → slots + ns ≤ ms →
    W p l e R s m args below meth c H locs cells slots (lw_Z below args s) (F0 m pc arr (st.map (kv_co w)))
theorem kl_iconst {w : KW} {l : Launch} {mm : KM} {dd nc ns pc : Nat} {ls : List (Option Value)} {rest : List Value} {u : KMem} {xs : Nat → Int32} {N : Nat} {n : Int} (d : decode mm.2.1 pc = .ok (.iconst n, 1)) (x : Int32) (hv : Int32.ofInt n = x) (k : KL w l mm dd nc ns (pc + 1) ls (.int x :: rest) u xs N) : KL w l mm dd nc ns pc ls (rest) u xs N := by
  intro p e R s m args below meth c H locs cells slots mc ms arr X F S M L c1 c2
  exact lv_iconst F.1 F.2.1 d hv (k p e R s m args below meth c H locs cells slots mc ms arr X F S M L c1 c2)
theorem kl_bipush {w : KW} {l : Launch} {mm : KM} {dd nc ns pc : Nat} {ls : List (Option Value)} {rest : List Value} {u : KMem} {xs : Nat → Int32} {N : Nat} {n : Int} (d : decode mm.2.1 pc = .ok (.bipush n, 2)) (x : Int32) (hv : (Int8.ofInt n).toInt32 = x) (k : KL w l mm dd nc ns (pc + 2) ls (.int x :: rest) u xs N) : KL w l mm dd nc ns pc ls (rest) u xs N := by
  intro p e R s m args below meth c H locs cells slots mc ms arr X F S M L c1 c2
  exact lv_bipush F.1 F.2.1 d hv (k p e R s m args below meth c H locs cells slots mc ms arr X F S M L c1 c2)
theorem kl_ldc2 {w : KW} {l : Launch} {mm : KM} {dd nc ns pc : Nat} {ls : List (Option Value)} {rest : List Value} {u : KMem} {xs : Nat → Int32} {N : Nat} {i : Nat} {x : Int64} (d : decode mm.2.1 pc = .ok (.ldc2_w i, 3)) (hw : Cond.constantLong mm.1.cls i x ∈ kv_tb) (k : KL w l mm dd nc ns (pc + 3) ls (.long x :: rest) u xs N) : KL w l mm dd nc ns pc ls (rest) u xs N := by
  intro p e R s m args below meth c H locs cells slots mc ms arr X F S M L c1 c2
  exact lv_ldc2 F.1 F.2.1 F.2.2.2.2.2.1 (F.2.2.2.2.2.2.2.1 _ hw) d (k p e R s m args below meth c H locs cells slots mc ms arr X F S M L c1 c2)
theorem kl_iload_n {w : KW} {l : Launch} {mm : KM} {dd nc ns pc : Nat} {ls : List (Option Value)} {rest : List Value} {u : KMem} {xs : Nat → Int32} {N : Nat} {j : Fin 4} {x : Int32} (d : decode mm.2.1 pc = .ok (.iload_n j, 1)) (h : ls[(j : Nat)]? = some (some (.int x))) (k : KL w l mm dd nc ns (pc + 1) ls (.int x :: rest) u xs N) : KL w l mm dd nc ns pc ls (rest) u xs N := by
  intro p e R s m args below meth c H locs cells slots mc ms arr X F S M L c1 c2
  exact lv_iload_n F.1 F.2.1 d rfl (kv_lget L h) (k p e R s m args below meth c H locs cells slots mc ms arr X F S M L c1 c2)
theorem kl_aload_n {w : KW} {l : Launch} {mm : KM} {dd nc ns pc : Nat} {ls : List (Option Value)} {rest : List Value} {u : KMem} {xs : Nat → Int32} {N : Nat} {j : Fin 4} {x : Nat} (d : decode mm.2.1 pc = .ok (.aload_n j, 1)) (h : ls[(j : Nat)]? = some (some (.ref x))) (k : KL w l mm dd nc ns (pc + 1) ls (.ref x :: rest) u xs N) : KL w l mm dd nc ns pc ls (rest) u xs N := by
  intro p e R s m args below meth c H locs cells slots mc ms arr X F S M L c1 c2
  exact lv_aload_n F.1 F.2.1 d rfl (kv_lget L h) (k p e R s m args below meth c H locs cells slots mc ms arr X F S M L c1 c2)
theorem kl_istore_n {w : KW} {l : Launch} {mm : KM} {dd nc ns pc : Nat} {ls : List (Option Value)} {rest : List Value} {u : KMem} {xs : Nat → Int32} {N : Nat} {j : Fin 4} {x : Int32} {ls2 : List (Option Value)} (d : decode mm.2.1 pc = .ok (.istore_n j, 1)) (hn : kv_nl ls (j : Nat) = true) (hi : Nat.blt ((j : Nat)) ls.length = true) (hm : Nat.blt ((j : Nat)) mm.2.2.1 = true) (hs : ls.set (j : Nat) (some (.int x)) = ls2) (k : KL w l mm dd nc ns (pc + 1) ls2 rest u xs N) : KL w l mm dd nc ns pc ls ((.int x) :: rest) u xs N := by
  intro p e R s m args below meth c H locs cells slots mc ms arr X F S M L c1 c2
  subst hs
  exact lv_istore_n F.1 F.2.1 d rfl L (Nat.le_of_ble_eq_true hm) rfl (fun arr2 L2 => k p e R s m args below meth c H locs cells slots mc ms arr2 X F S M (kv_hs (kv_ll_set hn (Nat.le_of_ble_eq_true hi)) L2) c1 c2)
theorem kl_astore_n {w : KW} {l : Launch} {mm : KM} {dd nc ns pc : Nat} {ls : List (Option Value)} {rest : List Value} {u : KMem} {xs : Nat → Int32} {N : Nat} {j : Fin 4} {x : Nat} {ls2 : List (Option Value)} (d : decode mm.2.1 pc = .ok (.astore_n j, 1)) (hn : kv_nl ls (j : Nat) = true) (hi : Nat.blt ((j : Nat)) ls.length = true) (hm : Nat.blt ((j : Nat)) mm.2.2.1 = true) (hs : ls.set (j : Nat) (some (.ref x)) = ls2) (k : KL w l mm dd nc ns (pc + 1) ls2 rest u xs N) : KL w l mm dd nc ns pc ls ((.ref x) :: rest) u xs N := by
  intro p e R s m args below meth c H locs cells slots mc ms arr X F S M L c1 c2
  subst hs
  exact lv_astore_n F.1 F.2.1 d rfl L (Nat.le_of_ble_eq_true hm) rfl (fun arr2 L2 => k p e R s m args below meth c H locs cells slots mc ms arr2 X F S M (kv_hs (kv_ll_set hn (Nat.le_of_ble_eq_true hi)) L2) c1 c2)
theorem kl_iinc {w : KW} {l : Launch} {mm : KM} {dd nc ns pc : Nat} {ls : List (Option Value)} {rest : List Value} {u : KMem} {xs : Nat → Int32} {N : Nat} {i : Nat} {n : Int} {x : Int32} {ls2 : List (Option Value)} (d : decode mm.2.1 pc = .ok (.iinc i n, 3)) (y : Int32) (h : ls[i]? = some (some (.int x))) (hy : x + Int32.ofInt n = y) (hn : kv_nl ls i = true) (hi : Nat.blt i ls.length = true) (hm : Nat.blt i mm.2.2.1 = true) (hs : ls.set i (some (.int y)) = ls2) (k : KL w l mm dd nc ns (pc + 3) ls2 rest u xs N) : KL w l mm dd nc ns pc ls rest u xs N := by
  intro p e R s m args below meth c H locs cells slots mc ms arr X F S M L c1 c2
  subst hs
  obtain ⟨kk, hk⟩ := List.getElem?_of_mem ((kv_ll_mem (w := w) ls 0 (i, .int x)).mpr ⟨i, _, h, by rw [Nat.zero_add]; rfl⟩)
  exact lv_iinc F.1 F.2.1 d L hk hy (Nat.le_of_ble_eq_true hm) rfl (fun arr2 L2 => k p e R s m args below meth c H locs cells slots mc ms arr2 X F S M (kv_hs (kv_ll_set hn (Nat.le_of_ble_eq_true hi)) L2) c1 c2)
theorem kl_iadd {w : KW} {l : Launch} {mm : KM} {dd nc ns pc : Nat} {ls : List (Option Value)} {rest : List Value} {u : KMem} {xs : Nat → Int32} {N : Nat} {x y : Int32} (d : decode mm.2.1 pc = .ok (.iadd, 1)) (k : KL w l mm dd nc ns (pc + 1) ls (.int (x + y) :: rest) u xs N) : KL w l mm dd nc ns pc ls (.int y :: .int x :: rest) u xs N := by
  intro p e R s m args below meth c H locs cells slots mc ms arr X F S M L c1 c2
  exact lv_iadd F.1 F.2.1 d (k p e R s m args below meth c H locs cells slots mc ms arr X F S M L c1 c2)
theorem kl_isub {w : KW} {l : Launch} {mm : KM} {dd nc ns pc : Nat} {ls : List (Option Value)} {rest : List Value} {u : KMem} {xs : Nat → Int32} {N : Nat} {x y : Int32} (d : decode mm.2.1 pc = .ok (.isub, 1)) (k : KL w l mm dd nc ns (pc + 1) ls (.int (x - y) :: rest) u xs N) : KL w l mm dd nc ns pc ls (.int y :: .int x :: rest) u xs N := by
  intro p e R s m args below meth c H locs cells slots mc ms arr X F S M L c1 c2
  exact lv_isub F.1 F.2.1 d (k p e R s m args below meth c H locs cells slots mc ms arr X F S M L c1 c2)
theorem kl_iand {w : KW} {l : Launch} {mm : KM} {dd nc ns pc : Nat} {ls : List (Option Value)} {rest : List Value} {u : KMem} {xs : Nat → Int32} {N : Nat} {x y : Int32} (d : decode mm.2.1 pc = .ok (.iand, 1)) (k : KL w l mm dd nc ns (pc + 1) ls (.int (x &&& y) :: rest) u xs N) : KL w l mm dd nc ns pc ls (.int y :: .int x :: rest) u xs N := by
  intro p e R s m args below meth c H locs cells slots mc ms arr X F S M L c1 c2
  exact lv_iand F.1 F.2.1 d (k p e R s m args below meth c H locs cells slots mc ms arr X F S M L c1 c2)
theorem kl_i2l {w : KW} {l : Launch} {mm : KM} {dd nc ns pc : Nat} {ls : List (Option Value)} {rest : List Value} {u : KMem} {xs : Nat → Int32} {N : Nat} {x : Int32} (d : decode mm.2.1 pc = .ok (.i2l, 1)) (k : KL w l mm dd nc ns (pc + 1) ls (.long x.toInt64 :: rest) u xs N) : KL w l mm dd nc ns pc ls (.int x :: rest) u xs N := by
  intro p e R s m args below meth c H locs cells slots mc ms arr X F S M L c1 c2
  exact lv_i2l F.1 F.2.1 d rfl (k p e R s m args below meth c H locs cells slots mc ms arr X F S M L c1 c2)
theorem kl_lshl {w : KW} {l : Launch} {mm : KM} {dd nc ns pc : Nat} {ls : List (Option Value)} {rest : List Value} {u : KMem} {xs : Nat → Int32} {N : Nat} {x : Int64} {y : Int32} (d : decode mm.2.1 pc = .ok (.lshl, 1)) (k : KL w l mm dd nc ns (pc + 1) ls (.long (x <<< (y.toInt64 &&& 63)) :: rest) u xs N) : KL w l mm dd nc ns pc ls (.int y :: .long x :: rest) u xs N := by
  intro p e R s m args below meth c H locs cells slots mc ms arr X F S M L c1 c2
  exact lv_lshl F.1 F.2.1 d rfl (k p e R s m args below meth c H locs cells slots mc ms arr X F S M L c1 c2)
theorem kl_land {w : KW} {l : Launch} {mm : KM} {dd nc ns pc : Nat} {ls : List (Option Value)} {rest : List Value} {u : KMem} {xs : Nat → Int32} {N : Nat} {x y : Int64} (d : decode mm.2.1 pc = .ok (.land, 1)) (k : KL w l mm dd nc ns (pc + 1) ls (.long (x &&& y) :: rest) u xs N) : KL w l mm dd nc ns pc ls (.long y :: .long x :: rest) u xs N := by
  intro p e R s m args below meth c H locs cells slots mc ms arr X F S M L c1 c2
  exact lv_land F.1 F.2.1 d (k p e R s m args below meth c H locs cells slots mc ms arr X F S M L c1 c2)
theorem kl_lor {w : KW} {l : Launch} {mm : KM} {dd nc ns pc : Nat} {ls : List (Option Value)} {rest : List Value} {u : KMem} {xs : Nat → Int32} {N : Nat} {x y : Int64} (d : decode mm.2.1 pc = .ok (.lor, 1)) (k : KL w l mm dd nc ns (pc + 1) ls (.long (x ||| y) :: rest) u xs N) : KL w l mm dd nc ns pc ls (.long y :: .long x :: rest) u xs N := by
  intro p e R s m args below meth c H locs cells slots mc ms arr X F S M L c1 c2
  exact lv_lor F.1 F.2.1 d (k p e R s m args below meth c H locs cells slots mc ms arr X F S M L c1 c2)
theorem kl_dup {w : KW} {l : Launch} {mm : KM} {dd nc ns pc : Nat} {ls : List (Option Value)} {rest : List Value} {u : KMem} {xs : Nat → Int32} {N : Nat} {v : Value} (d : decode mm.2.1 pc = .ok (.dup, 1)) (h : v.category = 1) (k : KL w l mm dd nc ns (pc + 1) ls (v :: v :: rest) u xs N) : KL w l mm dd nc ns pc ls (v :: rest) u xs N := by
  intro p e R s m args below meth c H locs cells slots mc ms arr X F S M L c1 c2
  exact lv_dup F.1 F.2.1 d ((kv_co_cat v).trans h) (k p e R s m args below meth c H locs cells slots mc ms arr X F S M L c1 c2)
theorem kl_icmp_gt {w : KW} {l : Launch} {mm : KM} {dd nc ns pc : Nat} {ls : List (Option Value)} {rest : List Value} {u : KMem} {xs : Nat → Int32} {N : Nat} {x y : Int32} {off : Int} (d : decode mm.2.1 pc = .ok (.if_icmp .gt off, 3)) (tgt : Nat) (ht : (pc : Int) + off = (tgt : Int)) (kt : y < x → KL w l mm dd nc ns tgt ls rest u xs N) (kf : ¬ (y < x) → KL w l mm dd nc ns (pc + 3) ls rest u xs N) : KL w l mm dd nc ns pc ls (.int y :: .int x :: rest) u xs N := by
  intro p e R s m args below meth c H locs cells slots mc ms arr X F S M L c1 c2
  exact lv_icmp_gt F.1 F.2.1 d ht (fun h => kt h p e R s m args below meth c H locs cells slots mc ms arr X F S M L c1 c2) (fun h => kf h p e R s m args below meth c H locs cells slots mc ms arr X F S M L c1 c2)
theorem kl_icmp_eq {w : KW} {l : Launch} {mm : KM} {dd nc ns pc : Nat} {ls : List (Option Value)} {rest : List Value} {u : KMem} {xs : Nat → Int32} {N : Nat} {x y : Int32} {off : Int} (d : decode mm.2.1 pc = .ok (.if_icmp .eq off, 3)) (tgt : Nat) (ht : (pc : Int) + off = (tgt : Int)) (kt : x = y → KL w l mm dd nc ns tgt ls rest u xs N) (kf : ¬ (x = y) → KL w l mm dd nc ns (pc + 3) ls rest u xs N) : KL w l mm dd nc ns pc ls (.int y :: .int x :: rest) u xs N := by
  intro p e R s m args below meth c H locs cells slots mc ms arr X F S M L c1 c2
  exact lv_icmp_eq F.1 F.2.1 d ht (fun h => kt h p e R s m args below meth c H locs cells slots mc ms arr X F S M L c1 c2) (fun h => kf h p e R s m args below meth c H locs cells slots mc ms arr X F S M L c1 c2)
theorem kl_goto {w : KW} {l : Launch} {mm : KM} {dd nc ns pc : Nat} {ls : List (Option Value)} {rest : List Value} {u : KMem} {xs : Nat → Int32} {N : Nat} {off : Int} (d : decode mm.2.1 pc = .ok (.goto off, 3)) (tgt : Nat) (ht : (pc : Int) + off = (tgt : Int)) (k : KL w l mm dd nc ns tgt ls rest u xs N) : KL w l mm dd nc ns pc ls rest u xs N := by
  intro p e R s m args below meth c H locs cells slots mc ms arr X F S M L c1 c2
  exact lv_goto F.1 F.2.1 d ht (k p e R s m args below meth c H locs cells slots mc ms arr X F S M L c1 c2)
theorem kl_tableIn {w : KW} {l : Launch} {mm : KM} {dd nc ns pc : Nat} {ls : List (Option Value)} {rest : List Value} {u : KMem} {xs : Nat → Int32} {N : Nat} {dflt lo hi : Int} {offs : Array Int} {len : Nat} {x : Int32} {off : Int} (d : decode mm.2.1 pc = .ok (.tableswitch dflt lo hi offs, len)) (tgt : Nat) (h1 : ¬ x.toInt < lo) (h2 : ¬ hi < x.toInt) (ho : offs[(x.toInt - lo).toNat]? = some off) (ht : (pc : Int) + off = (tgt : Int)) (k : KL w l mm dd nc ns tgt ls rest u xs N) : KL w l mm dd nc ns pc ls (.int x :: rest) u xs N := by
  intro p e R s m args below meth c H locs cells slots mc ms arr X F S M L c1 c2
  exact lv_tableIn F.1 F.2.1 d h1 h2 ho ht (k p e R s m args below meth c H locs cells slots mc ms arr X F S M L c1 c2)
theorem kl_tableOut {w : KW} {l : Launch} {mm : KM} {dd nc ns pc : Nat} {ls : List (Option Value)} {rest : List Value} {u : KMem} {xs : Nat → Int32} {N : Nat} {dflt lo hi : Int} {offs : Array Int} {len : Nat} {x : Int32} (d : decode mm.2.1 pc = .ok (.tableswitch dflt lo hi offs, len)) (tgt : Nat) (h : x.toInt < lo ∨ hi < x.toInt) (ht : (pc : Int) + dflt = (tgt : Int)) (k : KL w l mm dd nc ns tgt ls rest u xs N) : KL w l mm dd nc ns pc ls (.int x :: rest) u xs N := by
  intro p e R s m args below meth c H locs cells slots mc ms arr X F S M L c1 c2
  exact lv_tableOut F.1 F.2.1 d h ht (k p e R s m args below meth c H locs cells slots mc ms arr X F S M L c1 c2)
section KLCall
variable {w : KW} {l : Launch} {mm : KM} {dd nc ns pc : Nat} {ls : List (Option Value)} {rest : List Value} {u : KMem} {xs : Nat → Int32} {N : Nat}
theorem kl_aft {p : Program} {e : Env} {R : Room} {s : State} {m : MethodId} {args : Array Value} {below : List Frame} {meth : Method} {c : Code} {H : Heap} {locs : List Loc} {cells slots mc ms : Nat} {arr : Array Slot} {d2 nc2 ns2 : Nat} {av : Array Value} {st0 : List Value} {Q2 : Option Value → KMem → Prop} (X : kl_Cx w N xs R s args mc ms) (F : kv_Fx w mm dd p R s m args meth c mc ms) (S : va_S (kv_A w) s.heap H locs) (L : lv_has arr mm.2.2.1 (kv_ll w 0 ls)) (c1 : cells + nc ≤ mc) (c2 : slots + ns ≤ ms) (h1 : nc2 ≤ nc) (h2 : ns2 ≤ ns)
    (hr : va_Run p l e R s m args below meth c H locs cells slots nc2 ns2 (F0 m pc arr st0) (rest.map (kv_co w)) (kv_Qc w Q2 av) (kv_A w))
    (kk : ∀ (r : Option Value) (v : KMem), Q2 r v → KL w l mm dd (nc - nc2) (ns - ns2) (pc + 3) ls (r.toList ++ rest) v xs N) : W p l e R s m args below meth c H locs cells slots (lw_Z below args s) (F0 m pc arr st0) := by
  intro T hT Xs
  obtain ⟨v, st₀, t, T', L1, h0, X', hL, e1, e2, ⟨⟨r, v2, hv, hq, hH⟩, hz, hk⟩, st⟩ := hr T hT Xs
  cases hv
  rw [h0] at hz hk
  have hS2 : va_S (kv_A w) s.heap T'.heap (locs ++ L1) := ⟨Nat.le_trans S.1 (by rw [e1]; exact hz), fun q g1 g2 => by rw [e1, hk q (Nat.lt_of_lt_of_le g1 S.1) g2]; exact S.2.1 q g1 g2, fun q hq => by
      rcases List.mem_append.mp hq with h | h
      · exact S.2.2 q h
      · exact hL q h⟩
  obtain ⟨t2, a1, b1⟩ := kk r v2 hq p e R s m args below meth c T'.heap (locs ++ L1) (cells + nc2) (slots + ns2) mc ms arr X F hS2 (by rw [e1]; exact hH) L (by omega) (by omega) T' rfl X'
  refine ⟨t2, st t2 ?_, b1⟩
  cases r <;> exact a1
theorem kl_callV (as : List Value) {m2 : KM} {d2 nc2 ns2 n idx b : Nat} {Q2 : Option Value → KMem → Prop} (d : decode mm.2.1 pc = .ok (.invokevirtual idx, 3)) (hl : Cond.methodLink mm.1.cls idx m2.1 ∈ kv_tb) (hm : kv_MI m2 n) (hc : KC w l m2 d2 nc2 ns2 (.ref b :: as) u Q2) (hrv : kv_rcv w u b m2.1.cls) (hn : as.length = n) (h8 : Nat.ble (kv_r8 rest) 8 = true) (hd : d2 + 1 ≤ dd) (h1 : nc2 ≤ nc) (h2 : ns2 ≤ ns)
    (kk : ∀ (r : Option Value) (v : KMem), Q2 r v → KL w l mm dd (nc - nc2) (ns - ns2) (pc + 3) ls (r.toList ++ rest) v xs N) : KL w l mm dd nc ns pc ls (as.reverse ++ .ref b :: rest) u xs N := by
  intro p e R s m args below meth c H locs cells slots mc ms arr X F S M L c1 c2
  have h8 : kv_r8 rest ≤ 8 := Nat.le_of_ble_eq_true h8
  have hp := kv_pre (as := .ref b :: as) F S M
  have hcb := kv_cb (d2 := d2) (nc2 := nc2) (ns2 := ns2) F hm.1 hl hd
  obtain ⟨hx, hb, hr, hlo, hml, hown, hnme, hts, hfr, hlc, hmc, hms, hK, hKC, -⟩ := id F
  have hrv2 : ∃ cellB : Cell, H[kv_ad w b]? = some cellB ∧ cellB.vm.isStatics = false ∧ s.vm.findClass m2.1.cls = some cellB.cls := by
    rcases hrv with ⟨ci, n, T, N, hb1, hsh, hci, hcl⟩ | ⟨i, hi, hb1, hC⟩
    · exact va_recv hK M.1 hcl (q0 := b) (by rw [kv_at hb1, kv_ce_obj hsh hci])
    · obtain ⟨cell, g1, g2, g3⟩ := vk_recv hKC.2.1 hi S
      rw [hC, hb1]
      refine ⟨cell, ?_, g2, g3⟩
      rw [show kv_ad w (10100 + i) = w.2.1 (100 + i) from by unfold kv_ad; rw [if_neg (by omega), show 10100 + i - 10000 = 100 + i by omega]]
      exact g1
  have hst : ((as.reverse ++ Value.ref b :: rest).map (kv_co w)) = (as.map (kv_co w)).reverse ++ .ref (kv_ad w b) :: rest.map (kv_co w) := by simp [kv_co]
  refine kl_aft (d2 := d2) X F S L c1 c2 h1 h2 (va_runV (Ts := kv_tb) (As := as.map (kv_co w)) (b := kv_ad w b) ⟨hx, hb, hml, hown, hts⟩ hc ⟨hcb, hts _ hm.2.1, hts _ hm.2.2⟩ ⟨hp.1, hrv2, hp.2⟩ rfl (by simpa using hn) L.1 hst ?_ d ⟨by omega, by omega⟩) kk
  show 2 * 0 + _ ≤ 8
  rw [kv_r8_eq]
  omega
theorem kl_callI (as : List Value) {y2 : MethodName} {b2 : ByteArray} {n2 : Nat} {d2 nc2 ns2 n idx b : Nat} {Q2 : Option Value → KMem → Prop} (d : decode mm.2.1 pc = .ok (.invokespecial idx, 3)) (hl : Cond.methodLink mm.1.cls idx y2 ∈ kv_tb) (hm : kv_MC (y2, b2, n2, none) n) (hc : KC w l (y2, b2, n2, none) d2 nc2 ns2 (.ref b :: as) u Q2) (hn : as.length = n) (h8 : Nat.ble (kv_r8 rest) 8 = true) (hd : d2 + 1 ≤ dd) (h1 : nc2 ≤ nc) (h2 : ns2 ≤ ns)
    (kk : ∀ (r : Option Value) (v : KMem), Q2 r v → KL w l mm dd (nc - nc2) (ns - ns2) (pc + 3) ls (r.toList ++ rest) v xs N) : KL w l mm dd nc ns pc ls (as.reverse ++ .ref b :: rest) u xs N := by
  intro p e R s m args below meth c H locs cells slots mc ms arr X F S M L c1 c2
  have h8 : kv_r8 rest ≤ 8 := Nat.le_of_ble_eq_true h8
  have hp := kv_pre (as := .ref b :: as) F S M
  have hcb := kv_cb (d2 := d2) (nc2 := nc2) (ns2 := ns2) F hm.1 hl hd
  obtain ⟨hx, hb, hr, hlo, hml, hown, hnme, hts, hfr, hlc, hmc, hms, hK, hKC, -⟩ := id F
  have hst : ((as.reverse ++ Value.ref b :: rest).map (kv_co w)) = (as.map (kv_co w)).reverse ++ .ref (kv_ad w b) :: rest.map (kv_co w) := by simp [kv_co]
  refine kl_aft (d2 := d2) X F S L c1 c2 h1 h2 (va_runI (Ts := kv_tb) (As := as.map (kv_co w)) (b := kv_ad w b) ⟨hx, hb, hml, hown, hts⟩ hc ⟨hcb, hm.2.2.1, hts _ hm.2.1⟩ hp rfl (by simpa using hn) L.1 hst ?_ d ⟨by omega, by omega⟩) kk
  show 2 * 0 + _ ≤ 8
  rw [kv_r8_eq]
  omega
theorem kl_new {idx ci n : Nat} {C : String} {T : u_T} {ty0 : Nat → FieldType} (d : decode mm.2.1 pc = .ok (.new idx, 3)) (hcl : kv_CL ci C T n ty0) (hlk : Cond.classLink mm.1.cls idx C ∈ kv_tb) (hin : Cond.instantiable C n ∈ kv_tb) (hini : Cond.initialized C ∈ kv_tb) (hs : kv_sh u.1 = (ci, n)) (hu : u.1 < 433) (hdf : ∀ k, k < n → defaultValue (ty0 k) = if kv_ir ci k then .null else .int 0) (h1 : 1 ≤ nc) (h2 : n ≤ ns)
    (kk : KL w l mm dd (nc - 1) (ns - n) (pc + 3) ls (.ref u.1 :: rest) (kv_al u) xs N) : KL w l mm dd nc ns pc ls rest u xs N := by
  intro p e R s m args below meth c H locs cells slots mc ms arr X F S M L c1 c2
  obtain ⟨hx, hb, hr, hlo, hml, hown, hnme, hts, hfr, hlc, hmc, hms, hK, hKC, -⟩ := id F
  obtain ⟨hc, hinw, hty, hnm, hci⟩ := hcl
  have hKn := hK.1 ci _ hc
  refine W.newcK hx hb hown (hts _ hlk) (hts _ hin) (hts _ hini) rfl d (by omega) (by omega) hKn.2.1 (kv_sz M hu) (fun H1 kC hkC e1 z1 o1 => ?_)
  rw [← kv_sz M hu] at z1 o1
  refine kk p e R s m args below meth c H1 locs (cells + 1) (slots + n) mc ms arr X F (kv_Sal S z1 o1) (kv_Hal M hu ?_ z1 o1) L (by omega) (by omega)
  rw [kv_ce_obj hs hci]
  refine ⟨_, hc, (u_born ty0 hts hinw hKn hkC e1 hty).to (fun k hk => ?_)⟩
  show defaultValue (ty0 k) = _
  rw [hdf k hk, vp_V, List.getD_eq_getElem?_getD, kv_rg hk]
  unfold kv_fv kv_al
  simp
  split <;> rfl
theorem kl_newN {a idx ci n : Nat} {C : String} {T : u_T} {ty0 : Nat → FieldType} (hn : u.1 = a) (d : decode mm.2.1 pc = .ok (.new idx, 3)) (hcl : kv_CL ci C T n ty0) (hlk : Cond.classLink mm.1.cls idx C ∈ kv_tb) (hin : Cond.instantiable C n ∈ kv_tb) (hini : Cond.initialized C ∈ kv_tb) (hs : kv_sh a = (ci, n)) (hu : a < 433) (hdf : ∀ k, k < n → defaultValue (ty0 k) = if kv_ir ci k then .null else .int 0) (h1 : 1 ≤ nc) (h2 : n ≤ ns)
    (kk : KL w l mm dd (nc - 1) (ns - n) (pc + 3) ls (.ref a :: rest) (kv_al u) xs N) : KL w l mm dd nc ns pc ls rest u xs N := by
  subst hn
  exact kl_new d hcl hlk hin hini hs hu hdf h1 h2 kk
theorem kl_ad (w : KW) : kv_ad w 10300 = w.2.1 300 := kv_adc 300
/-- a place of the script -/
theorem kl_sld {i : Int32} {j : Nat} (d : decode mm.2.1 pc = .ok (.iaload, 1)) (hi : i = nI j) (hj : j < N) (hN : N < 1000)
    (kk : KL w l mm dd nc ns (pc + 1) ls (.int (xs j) :: rest) u xs N) : KL w l mm dd nc ns pc ls (.int i :: .ref 10300 :: rest) u xs N := by
  intro p e R s m args below meth c H locs cells slots mc ms arr X F S M L c1 c2
  obtain ⟨hR, hA, hX, hbl, hw, -, -⟩ := id X
  rw [List.map_cons, List.map_cons, show kv_co w (.ref 10300) = .ref (w.2.1 300) from congrArg Value.ref (kl_ad w)]
  refine va_sld (A := kv_A w) F.1 F.2.1 hX hbl (by show ¬ w.1 ≤ w.2.1 300; omega) S (by rw [hi]; exact vp_in_nI hj (by omega)) d ?_
  rw [hi, nI_clamp (by omega)]
  exact kk p e R s m args below meth c H locs cells slots mc ms arr X F S M L c1 c2
theorem kl_slen (d : decode mm.2.1 pc = .ok (.arraylength, 1))
    (kk : KL w l mm dd nc ns (pc + 1) ls (.int (nI N) :: rest) u xs N) : KL w l mm dd nc ns pc ls (.ref 10300 :: rest) u xs N := by
  intro p e R s m args below meth c H locs cells slots mc ms arr X F S M L c1 c2
  obtain ⟨hR, hA, hX, hbl, hw, -, -⟩ := id X
  rw [List.map_cons, show kv_co w (.ref 10300) = .ref (w.2.1 300) from congrArg Value.ref (kl_ad w)]
  exact va_slen (A := kv_A w) F.1 F.2.1 hX hbl (by show ¬ w.1 ≤ w.2.1 300; omega) S d (kk p e R s m args below meth c H locs cells slots mc ms arr X F S M L c1 c2)
/-- the law's end -/
theorem kl_ret (d : decode mm.2.1 pc = .ok (.ireturn, 1)) (hc : mm.2.1 = code) (hr : mm.2.2.2 = ret) : KL w l mm dd nc ns pc ls [.int 1] u xs N := by
  intro p e R s m args below meth c H locs cells slots mc ms arr X F S M L c1 c2
  obtain ⟨rfl, rfl, hX, hbl, hw, rfl, rfl⟩ := id X
  rw [hc] at d
  refine va_forget (fun q hq => ?_) (W.widen (k := 600000) (n := 7302250) (by omega) (by omega) ?_)
  · rw [← hw]; exact S.2.2 q hq
  · exact lw_ret F.1 (F.2.1.trans hc) (F.2.2.1.trans hr) F.2.2.2.1 d
theorem KL.room {nc2 ns2 : Nat} {st : List Value} (h : KL w l mm dd nc ns pc ls st u xs N) (h1 : nc ≤ nc2) (h2 : ns ≤ ns2) : KL w l mm dd nc2 ns2 pc ls st u xs N :=
  fun p e R s m args below meth c H locs cells slots mc ms arr X F S M L c1 c2 => h p e R s m args below meth c H locs cells slots mc ms arr X F S M L (by omega) (by omega)
end KLCall
