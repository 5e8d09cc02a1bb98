/-! voice -/
set_option maxRecDepth 20000 in
set_option maxHeartbeats 4000000 in
theorem rX12_kindOf {w : KW} {l : Launch} {u : KMem} (hu : kWd u) {g : Nat → Int32} (eg : u.2.1 414 = g) (hg : kGI g) (e : Nat) (he : e < kN g 4) : KC w l mX12_kindOf 9 0 0 [.ref 413, .int (nI e)] u (kp kSP u (some (.int (kKind g e)))) := by
  have hx20 := (hg.cnt (k := 2) rfl).2
  have hc30 := (hg.cnt (k := 0) rfl).2
  have ht10 := (hg.cnt (k := 3) rfl).2
  have he40 := (hg.cnt (k := 4) rfl).2
  have hE := hg.ent he
  have hfe := kFst_le g e
  refine KC.of (ls := [_, _]) rfl rfl (Nat.le_of_ble_eq_true rfl) ?_
  refine kv_aload_n dX12_kindOf_0 rfl ?_
  refine kv_iload_n dX12_kindOf_1 rfl ?_
  refine kw_Vi [_] mX12_firstOf dX12_kindOf_2 lX12_295 wX12_firstOf kC12 hu rfl (by first | rfl | assumption) rfl rfl rfl (qX12_firstOf hu eg hg e he) (by decide) ?_
  refine kv_iload_n dX12_kindOf_5 rfl ?_
  refine kv_icmp_ge dX12_kindOf_6 13 (by decide) (fun h1 => ?_) (fun h1 => ?_)
  · have hf : ¬ ¬ e ≤ kFst g e := fun q => q ((nI_leI (by omega) (by omega)).mp h1)
    refine kv_aload_n dX12_kindOf_13 rfl ?_
    refine kv_iload_n dX12_kindOf_14 rfl ?_
    refine kw_Vpi [_] mX12_isDisputed dX12_kindOf_15 lX12_298 wX12_isDisputed kC12 hu rfl (by first | rfl | assumption) rfl rfl rfl (rX12_isDisputed hu eg hg e he) (by decide) (fun v1 e1 => ?_)
    have hu1 := e1.wd hu
    have E1 := e1
    have eg1 : v1.2.1 414 = g := (E1.row kSP_now).trans eg
    refine kw_beq dX12_kindOf_18 25 (by decide) (fun h2 => ?_) (fun h2 => ?_)
    · refine kv_aload_n dX12_kindOf_25 rfl ?_
      refine kv_aload_n dX12_kindOf_26 rfl ?_
      refine kv_iload_n dX12_kindOf_27 rfl ?_
      refine kv_iconst dX12_kindOf_28 0 ki_0 ?_
      refine kw_Vi [_, _] mX12_line dX12_kindOf_29 lX12_292 wX12_line kC12 hu1 rfl (by first | rfl | assumption) rfl rfl rfl (gX12_line hu1 eg1 e 0 (by omega) (by decide)) (by decide) ?_
      rw [hE.1]
      refine kv_aload_n dX12_kindOf_32 rfl ?_
      refine kv_iload_n dX12_kindOf_33 rfl ?_
      refine kv_iconst dX12_kindOf_34 1 ki_1 ?_
      refine kw_Vi [_, _] mX12_line dX12_kindOf_35 lX12_292 wX12_line kC12 hu1 rfl (by first | rfl | assumption) rfl rfl rfl (gX12_line hu1 eg1 e 1 (by omega) (by decide)) (by decide) ?_
      rw [hE.2.2.1]
      refine kw_Vi [_, _] mX12_isTotal dX12_kindOf_38 lX12_171 wX12_isTotal kC12 hu1 rfl (by first | rfl | assumption) rfl rfl rfl (gX12_isTotal hu1 eg1 hg _ _ hE.2.1 hE.2.2.2) (by decide) ?_
      refine kw_beq dX12_kindOf_41 48 (by decide) (fun h3 => ?_) (fun h3 => ?_)
      · refine kv_iconst dX12_kindOf_48 1 ki_1 ?_
        exact kv_iret dX12_kindOf_49 rfl ⟨by unfold kKind; first | (rw [if_pos hf]; done) | (rw [if_neg hf, if_pos ‹kDisp _ _›]; done) | (rw [if_neg hf, if_neg ‹¬ kDisp _ _›, if_pos ‹kTot _ _ _›]; done) | (rw [if_neg hf, if_neg ‹¬ kDisp _ _›, if_neg ‹¬ kTot _ _ _›]; done), E1⟩
      · refine kv_iconst dX12_kindOf_44 2 ki_2 ?_
        refine kv_goto dX12_kindOf_45 49 (by decide) ?_
        exact kv_iret dX12_kindOf_49 rfl ⟨by unfold kKind; first | (rw [if_pos hf]; done) | (rw [if_neg hf, if_pos ‹kDisp _ _›]; done) | (rw [if_neg hf, if_neg ‹¬ kDisp _ _›, if_pos ‹kTot _ _ _›]; done) | (rw [if_neg hf, if_neg ‹¬ kDisp _ _›, if_neg ‹¬ kTot _ _ _›]; done), E1⟩
    · refine kv_iconst dX12_kindOf_21 3 ki_3 ?_
      refine kv_goto dX12_kindOf_22 49 (by decide) ?_
      exact kv_iret dX12_kindOf_49 rfl ⟨by unfold kKind; first | (rw [if_pos hf]; done) | (rw [if_neg hf, if_pos ‹kDisp _ _›]; done) | (rw [if_neg hf, if_neg ‹¬ kDisp _ _›, if_pos ‹kTot _ _ _›]; done) | (rw [if_neg hf, if_neg ‹¬ kDisp _ _›, if_neg ‹¬ kTot _ _ _›]; done), E1⟩
  · have hf : ¬ e ≤ kFst g e := fun q => h1 ((nI_leI (by omega) (by omega)).mpr q)
    refine kv_iconst dX12_kindOf_9 4 ki_4 ?_
    refine kv_goto dX12_kindOf_10 49 (by decide) ?_
    exact kv_iret dX12_kindOf_49 rfl ⟨by unfold kKind; first | (rw [if_pos hf]; done) | (rw [if_neg hf, if_pos ‹kDisp _ _›]; done) | (rw [if_neg hf, if_neg ‹¬ kDisp _ _›, if_pos ‹kTot _ _ _›]; done) | (rw [if_neg hf, if_neg ‹¬ kDisp _ _›, if_neg ‹¬ kTot _ _ _›]; done), kEq.rf⟩
noncomputable def kvoR (a : KA) (e act : Nat) (x : Int32) : Int32 × kVS := kSp (kKind (a 0) e).toNatClampNeg (a 0 (1128 + 5 * e + 3)) (nI e) 8 (kKind (a 0) e).toNatClampNeg act x (a 4, 0, 0)
def kvoA (a : KA) (s : kVS) : KA := kUp1 (kUp1 a 4 s.1) 5 (kSet (a 5) 0 (nI s.2.1))
noncomputable def kvoice (a : KA) (p0 p1 p2 : Int32) : Int32 × KA := if kOut p0 0 (a 0 4 - 1) ∨ kOut p1 0 3 then (-1000001, kF a 1) else if (kvoR a p0.toNatClampNeg p1.toNatClampNeg p2).2.2.2 = 0 then ((kvoR a p0.toNatClampNeg p1.toNatClampNeg p2).1, kvoA a (kvoR a p0.toNatClampNeg p1.toNatClampNeg p2).2) else (-1000006, kF (kvoA a (kvoR a p0.toNatClampNeg p1.toNatClampNeg p2).2) 6)
theorem kKind_n (g : Nat → Int32) (e : Nat) : kKind g e = nI (kKind g e).toNatClampNeg ∧ (kKind g e).toNatClampNeg < 5 := by
  rcases kKind_or g e with h | h | h | h <;> rw [h] <;> exact ⟨by decide, by decide⟩
theorem kvoA_j {a : KA} {s : kVS} {j : Nat} (h4 : ¬ j = 4) (h5 : ¬ j = 5) : kvoA a s j = a j := by unfold kvoA; rw [kUp1_n h5, kUp1_n h4]
theorem kvoA_4 (a : KA) (s : kVS) : kvoA a s 4 = s.1 := by unfold kvoA; rw [kUp1_n (by omega), kUp1_s]
theorem kvoA_5 (a : KA) (s : kVS) : kvoA a s 5 0 = nI s.2.1 := by unfold kvoA; rw [kUp1_s, kSet_s]
theorem kRX.voi {a : KA} {u u1 v : KMem} (h : kRX a u) (ho : kOk a) (e1 : kEq kSX u u1) {K : Nat} {hh n : Int32} {s : kVS} (hs : kVX u1 K hh n s v) : kRX (kvoA a s) v := by
  have V : ∀ b k, ¬ kSX b k → b ≠ 397 → b ≠ 398 → v.2.1 b k = u.2.1 b k := fun b k q q1 q2 => (hs.1.2.2.1 b k (by unfold kSV; omega)).trans (e1.2.2.1 b k q)
  obtain ⟨h1, h2, h3, h4, h5, h6, h7⟩ := h
  refine ⟨?_, ⟨fun q => ?_, by rw [V _ _ (by unfold kSX; omega) (by omega) (by omega)]; exact h2.2⟩, ?_, fun k hk => ?_, ?_, fun k hk => ?_, fun i hi => ⟨?_, ?_, fun k hk => ?_⟩⟩
  · rw [kvoA_j (by omega) (by omega)]; exact h1.of (fun b k q1 q2 => V b k (by unfold kSX; omega) (by omega) (by omega)) ho.1
  · rw [kvoA_j (by omega) (by omega)] at q
    rw [kvoA_j (by omega) (by omega)]; exact (h2.1 q).of (fun b k q1 q2 => V b k (by unfold kSX; omega) (by omega) (by omega)) (ho.2.1 q)
  · rw [V _ _ (by unfold kSX; omega) (by omega) (by omega), kvoA_j (by omega) (by omega)]; exact h3
  · rw [V _ _ (by unfold kSX; omega) (by omega) (by omega), kvoA_j (by omega) (by omega)]; exact h4 k hk
  · rw [kvoA_5]; exact hs.2.1
  · unfold kN at hk
    have h30 := hs.2.2.1
    rw [kvoA_5, nI_clamp (by omega)] at hk
    rw [kvoA_4]; exact hs.2.2.2.1 k hk
  · rw [V _ _ (by unfold kSX; omega) (by omega) (by omega), kvoA_j (by omega) (by omega)]; exact (h7 i hi).1
  · rw [V _ _ (by unfold kSX; omega) (by omega) (by omega), kvoA_j (by omega) (by omega)]; exact (h7 i hi).2.1
  · rw [V _ _ (by unfold kSX; omega) (by omega) (by omega), kvoA_j (by omega) (by omega)]; exact (h7 i hi).2.2 k hk
theorem kOk.voi {a : KA} (ho : kOk a) {s : kVS} (h : s.2.1 ≤ 30) : kOk (kvoA a s) := ⟨by rw [kvoA_j (by omega) (by omega)]; exact ho.1, fun q => by rw [kvoA_j (by omega) (by omega)] at q; rw [kvoA_j (by omega) (by omega)]; exact ho.2.1 q, by rw [kvoA_5]; exact ⟨_, h, rfl⟩, fun i hi => by rw [kvoA_j (by omega) (by omega), kvoA_j (by omega) (by omega)]; exact ho.2.2.2 i hi⟩
theorem kRM.voi {a : KA} {u v : KMem} (h : kRM a u) {s : kVS} (R : ∀ b, b ≠ 413 → b ≠ 420 → b ≠ 428 → v.2.1 b = u.2.1 b) (F2 : v.2.1 413 2 = u.2.1 413 2) (h4 : v.2.1 428 = s.1) (h5 : v.2.1 413 24 = nI s.2.1) : kRM (kvoA a s) v := by
  obtain ⟨q1, q2, q3, q4, q5, q6, q7, q8, q9, qA⟩ := h
  refine ⟨?_, ?_, ?_, ?_, ?_, ?_, ?_, ?_, ?_, ?_⟩
  · rw [R _ (by omega) (by omega) (by omega), kvoA_j (by omega) (by omega)]; exact q1
  · rw [R _ (by omega) (by omega) (by omega), kvoA_j (by omega) (by omega)]; exact q2
  · rw [F2, kvoA_j (by omega) (by omega)]; exact q3
  · rw [R _ (by omega) (by omega) (by omega), kvoA_j (by omega) (by omega)]; exact q4
  · rw [kvoA_4]; exact h4
  · rw [kvoA_5]; exact h5
  · rw [R _ (by omega) (by omega) (by omega), kvoA_j (by omega) (by omega)]; exact q7
  · rw [R _ (by omega) (by omega) (by omega), kvoA_j (by omega) (by omega)]; exact q8
  · rw [R _ (by omega) (by omega) (by omega), kvoA_j (by omega) (by omega)]; exact q9
  · exact ⟨by rw [R _ (by omega) (by omega) (by omega)]; exact qA.1, by rw [R _ (by omega) (by omega) (by omega)]; exact qA.2⟩
set_option maxRecDepth 20000 in
set_option maxHeartbeats 4000000 in
theorem qX10_begin {w : KW} {l : Launch} {u : KMem} (hu : kWd u) (p0 p1 p2 : Int32) : KC w l mX10_begin 0 0 0 [.ref 397, .int p0, .int p1, .int p2] u (kq none (kv_si (kv_si (kv_si (kv_si (kv_si u 397 4 p0) 397 5 p1) 397 3 p2) 397 1 0) 397 2 0)) := by
  refine KC.of (ls := [_, _, _, _]) rfl rfl (Nat.le_of_ble_eq_true rfl) ?_
  refine kv_aload_n dX10_begin_0 rfl ?_
  refine kv_iload_n dX10_begin_1 rfl ?_
  refine kw_pI dX10_begin_2 fX10_15 hu (by first | rfl | assumption) rfl rfl ?_
  refine kv_aload_n dX10_begin_5 rfl ?_
  refine kv_iload_n dX10_begin_6 rfl ?_
  refine kw_pI dX10_begin_7 fX10_19 hu (by first | rfl | assumption) rfl rfl ?_
  refine kv_aload_n dX10_begin_10 rfl ?_
  refine kv_iload_n dX10_begin_11 rfl ?_
  refine kw_pI dX10_begin_12 fX10_22 hu (by first | rfl | assumption) rfl rfl ?_
  refine kv_aload_n dX10_begin_15 rfl ?_
  refine kv_iconst dX10_begin_16 0 ki_0 ?_
  refine kw_pI dX10_begin_17 fX10_25 hu (by first | rfl | assumption) rfl rfl ?_
  refine kv_aload_n dX10_begin_20 rfl ?_
  refine kv_iconst dX10_begin_21 0 ki_0 ?_
  refine kw_pZ dX10_begin_22 fX10_28 hu (by first | rfl | assumption) rfl rfl (by first | exact Or.inl rfl | exact Or.inr rfl | assumption) ?_
  exact kv_vret dX10_begin_25 rfl ⟨rfl, rfl⟩

set_option maxRecDepth 20000 in
set_option maxHeartbeats 4000000 in
theorem qX10_answerTo {w : KW} {l : Launch} {u : KMem} (hu : kWd u) {K : Nat} (hK : K < 5) {h n : Int32} (act : Nat) (x : Int32) {v : KMem} {s : kVS} (hact : act < 4) (hs : kVX u K h n s v) : KC w l mX10_answerTo 18 0 0 [.ref 397, .int (nI act), .int x] v (fun r z => r = some (.int (kSp K h n 8 K act x s).1) ∧ kVX u K h n (kSp K h n 8 K act x s).2 z) := by
  have hv := hs.1.wd hu
  refine KC.of (ls := [_, _, _]) rfl rfl (Nat.le_of_ble_eq_true rfl) ?_
  refine kv_aload_n dX10_answerTo_0 rfl ?_
  refine kv_aload_n dX10_answerTo_1 rfl ?_
  refine kw_gI dX10_answerTo_2 fX10_22 hv (by first | rfl | assumption) rfl rfl ?_
  rw [hs.2.2.2.2.2.2.1]
  refine kv_iload_n dX10_answerTo_5 rfl ?_
  refine kv_iload_n dX10_answerTo_6 rfl ?_
  refine kv_iconst dX10_answerTo_7 0 ki_0 ?_
  refine kw_VQ [_, _, _, _] mX10_speak dX10_answerTo_8 lX10_32 wX10_speak kC10 hv rfl (by first | rfl | assumption) rfl rfl rfl (qX10_speak hu hK 8 K act x 0 v s hK hact (kFu_8 K hK act hact) (by omega) hs) (by decide) (fun _ v1 q1 => ?_)
  obtain ⟨rfl, hs1⟩ := q1
  have hv1 := hs1.1.wd hu
  exact kv_iret dX10_answerTo_11 rfl ⟨rfl, hs1⟩

set_option maxRecDepth 20000 in
set_option maxHeartbeats 4000000 in
theorem qX11_voice {w : KW} {l : Launch} {u : KMem} (hu : kWd u) {a : KA} (hx : kRX a u) (ho : kOk a) (p0 p1 p2 : Int32) : KC w l mX11_voice 19 0 0 [.ref 0, .int p0, .int p1, .int p2] u (kOX u (kvoice a p0 p1 p2).1 (kvoice a p0 p1 p2).2) := by
  have hr := hx.1
  have hg := ho.1
  have hx20 := (hg.cnt (k := 2) rfl).2
  have hc30 := (hg.cnt (k := 0) rfl).2
  have ht10 := (hg.cnt (k := 3) rfl).2
  have he40 := (hg.cnt (k := 4) rfl).2
  have hs16 := hg.cnt (k := 1) rfl
  refine KC.of (ls := [_, _, _, _, _]) rfl rfl (Nat.le_of_ble_eq_true rfl) ?_
  refine kv_aload_n dX11_voice_0 rfl ?_
  refine kv_iload_n dX11_voice_1 rfl ?_
  refine kw_Vi [_] mX11_noEntry dX11_voice_2 lX11_273 wX11_noEntry kC11 hu rfl (by first | rfl | assumption) rfl rfl rfl (qX11_noEntry (by exact hu) _) (by decide) ?_
  refine kw_bne dX11_voice_5 17 (by decide) (fun h1 => ?_) (fun h1 => ?_)
  · rw [hr.n4] at h1
    have hS : kvoice a p0 p1 p2 = (-1000001, kF a 1) := if_pos (Or.inl h1)
    refine kv_aload_n dX11_voice_17 rfl ?_
    refine kv_ldc dX11_voice_18 kX11_74 ?_
    refine kw_Vi [_] mX11_refuse dX11_voice_20 lX11_75 wX11_refuse kC11 hu rfl (by first | rfl | assumption) rfl rfl rfl (qX11_refuse (by exact hu) 1 (by decide) (by decide) _ (by decide)) (by decide) ?_
    exact kv_iret dX11_voice_23 rfl (by rw [hS]; exact kOX.no hx ho hu (by decide) rfl)
  · rw [hr.n4] at h1
    have n1 : ¬ kOut p0 0 (a 0 4 - 1) := h1
    refine kv_iload_n dX11_voice_8 rfl ?_
    refine kv_iconst dX11_voice_9 0 ki_0 ?_
    refine kv_iconst dX11_voice_10 3 ki_3 ?_
    refine kw_Si [_, _, _] mX11_outside dX11_voice_11 lX11_69 wX11_outside rfl rfl rfl (qX11_outside (by exact hu) _ _ _) (by decide) ?_
    refine kw_beq dX11_voice_14 24 (by decide) (fun h2 => ?_) (fun h2 => ?_)
    · have n2 : ¬ kOut p1 0 3 := h2
      have hS : kvoice a p0 p1 p2 = _ := if_neg (fun q => q.elim n1 n2)
      obtain ⟨e, he, rfl⟩ := hg.at (k := 4) rfl n1
      obtain ⟨act, ha3, rfl⟩ := kOut.bd (n := 3) (by omega) n2
      have hact : act < 4 := by omega
      rw [nI_clamp (by omega), nI_clamp (by omega)] at hS
      have hkd := kKind_n (a 0) e
      have ke := ks_entry e (by omega)
      have ke1 := ke.1
      have ke2 := ke.2
      refine kv_aload_n dX11_voice_24 rfl ?_
      refine kw_gR dX11_voice_25 fX11_54 hu (by first | rfl | assumption) rfl rfl (by first | rfl | assumption) ?_
      refine kv_iload_n dX11_voice_28 rfl ?_
      refine kv_aload_n dX11_voice_29 rfl ?_
      refine kw_gR dX11_voice_30 fX11_12 hu (by first | rfl | assumption) rfl rfl (by first | rfl | assumption) ?_
      refine kw_gR dX11_voice_33 fX11_259 hu (by first | rfl | assumption) rfl rfl (by first | rfl | assumption) ?_
      refine kv_iload_n dX11_voice_36 rfl ?_
      refine kw_al (t := 3) (n := 40) dX11_voice_37 hu rfl rfl (e) rfl (by omega) rfl (by first | rfl | assumption) ?_
      refine kw_gI dX11_voice_38 fX11_285 hu (by first | rfl | assumption) rfl rfl ?_
      rw [hr.ent he 3 (by omega)]
      refine kv_aload_n dX11_voice_41 rfl ?_
      refine kw_gR dX11_voice_42 fX11_24 hu (by first | rfl | assumption) rfl rfl (by first | rfl | assumption) ?_
      refine kv_iload_n dX11_voice_45 rfl ?_
      refine kw_Vpi [_] mX3_kind dX11_voice_46 lX11_293 wX3_kind kC3 hu rfl (by first | rfl | assumption) rfl rfl rfl (qX3_kind hu hr hg e he) (by decide) (fun v1 e1 => ?_)
      have hu1 := e1.wd hu
      have E1 := e1
      refine kw_Vv [_, _, _] mX10_begin dX11_voice_49 lX11_371 wX10_begin kC10 hu1 rfl (by first | rfl | assumption) rfl rfl rfl (qX10_begin hu1 _ _ _) (by decide) ?_
      have hs0 : kVX v1 (kKind (a 0) e).toNatClampNeg (a 0 (1128 + 5 * e + 3)) (nI e) (a 4, 0, 0) (kv_si (kv_si (kv_si (kv_si (kv_si v1 397 4 (nI e)) 397 5 (a 0 (1128 + 5 * e + 3))) 397 3 (kKind (a 0) e)) 397 1 0) 397 2 0) := ⟨((((kEq.rf.si (Or.inl rfl)).si (Or.inl rfl)).si (Or.inl rfl)).si (Or.inl rfl)).si (Or.inl rfl), (kv_si_n (by omega)).trans (kv_si_s _ _ _ _), Nat.zero_le 30, fun k hk => absurd hk (Nat.not_lt_zero k), kv_si_s _ _ _ _, Or.inl rfl, by rw [kv_si_n (by omega), kv_si_n (by omega), kv_si_s]; exact hkd.1, by rw [kv_si_n (by omega), kv_si_n (by omega), kv_si_n (by omega), kv_si_n (by omega), kv_si_s], by rw [kv_si_n (by omega), kv_si_n (by omega), kv_si_n (by omega), kv_si_s]⟩
      refine kv_aload_n dX11_voice_52 rfl ?_
      refine kw_gR dX11_voice_53 fX11_54 hu1 (by first | rfl | assumption) rfl rfl (by first | rfl | assumption) ?_
      refine kv_iload_n dX11_voice_56 rfl ?_
      refine kv_iload_n dX11_voice_57 rfl ?_
      refine kw_VQ [_, _] mX10_answerTo dX11_voice_58 lX11_375 wX10_answerTo kC10 hu1 rfl (by first | rfl | assumption) rfl rfl rfl (qX10_answerTo hu1 hkd.2 act p2 hact hs0) (by decide) (fun _ v2 q2 => ?_)
      obtain ⟨rfl, hs1⟩ := q2
      have hv2 := hs1.1.wd hu1
      have hx2 := hx.voi ho E1 hs1
      have ho2 := ho.voi hs1.2.2.1
      have b2 : ∀ b, 413 ≤ b → v2.2.1 b = u.2.1 b := fun b hb => (hs1.1.row (fun k => by unfold kSV; omega)).trans (E1.row (fun k => by unfold kSX; omega))
      refine kv_istore (ls2 := [_, _, _, _, _]) dX11_voice_61 rfl rfl rfl rfl ?_
      refine kv_aload_n dX11_voice_63 rfl ?_
      refine kw_gR dX11_voice_64 fX11_54 hv2 (by first | rfl | assumption) rfl rfl (by first | rfl | assumption) ?_
      refine kw_gI dX11_voice_67 fX11_378 hv2 (by first | rfl | assumption) rfl rfl ?_
      rw [hs1.2.2.2.2.1]
      refine kv_if_eq dX11_voice_70 83 (by decide) (fun h3 => ?_) (fun h3 => ?_)
      · rw [if_pos (show (kvoR a e act p2).2.2.2 = 0 from h3)] at hS
        refine kv_iload dX11_voice_83 rfl ?_
        exact kv_iret dX11_voice_85 rfl (by rw [hS]; first | exact kOX.pre b2 (kOX.no hx2 ho2 hv2 (by decide) rfl) | exact ⟨rfl, hv2, b2, hx2⟩)
      · rw [if_neg (show ¬ (kvoR a e act p2).2.2.2 = 0 from h3)] at hS
        refine kv_aload_n dX11_voice_73 rfl ?_
        refine kv_ldcw dX11_voice_74 kX11_381 ?_
        refine kw_Vi [_] mX11_refuse dX11_voice_77 lX11_75 wX11_refuse kC11 hv2 rfl (by first | rfl | assumption) rfl rfl rfl (qX11_refuse (by exact hv2) 6 (by decide) (by decide) _ (by decide)) (by decide) ?_
        refine kv_goto dX11_voice_80 85 (by decide) ?_
        exact kv_iret dX11_voice_85 rfl (by rw [hS]; first | exact kOX.pre b2 (kOX.no hx2 ho2 hv2 (by decide) rfl) | exact ⟨rfl, hv2, b2, hx2⟩)
    · have hS : kvoice a p0 p1 p2 = (-1000001, kF a 1) := if_pos (Or.inr h2)
      refine kv_aload_n dX11_voice_17 rfl ?_
      refine kv_ldc dX11_voice_18 kX11_74 ?_
      refine kw_Vi [_] mX11_refuse dX11_voice_20 lX11_75 wX11_refuse kC11 hu rfl (by first | rfl | assumption) rfl rfl rfl (qX11_refuse (by exact hu) 1 (by decide) (by decide) _ (by decide)) (by decide) ?_
      exact kv_iret dX11_voice_23 rfl (by rw [hS]; exact kOX.no hx ho hu (by decide) rfl)

set_option maxRecDepth 20000 in
set_option maxHeartbeats 4000000 in
theorem qX12_voice {w : KW} {l : Launch} {u : KMem} (hu : kWd u) {a : KA} (hm : kRM a u) (ho : kOk a) (p0 p1 p2 : Int32) : KC w l mX12_voice 28 0 0 [.ref 413, .int p0, .int p1, .int p2] u (kOM u (kvoice a p0 p1 p2).1 (kvoice a p0 p1 p2).2) := by
  have eg := hm.1
  have hg := ho.1
  have hx20 := (hg.cnt (k := 2) rfl).2
  have hc30 := (hg.cnt (k := 0) rfl).2
  have ht10 := (hg.cnt (k := 3) rfl).2
  have he40 := (hg.cnt (k := 4) rfl).2
  have hs16 := hg.cnt (k := 1) rfl
  refine KC.of (ls := [_, _, _, _, _]) rfl rfl (Nat.le_of_ble_eq_true rfl) ?_
  refine kv_aload_n dX12_voice_0 rfl ?_
  refine kv_iload_n dX12_voice_1 rfl ?_
  refine kv_iconst dX12_voice_2 4 ki_4 ?_
  refine kw_Vi [_, _] mX12_is dX12_voice_3 lX12_93 wX12_is kC12 hu rfl (by first | rfl | assumption) rfl rfl rfl (gX12_is hu eg _ 4 (by omega)) (by decide) ?_
  refine kw_beq dX12_voice_6 18 (by decide) (fun h1 => ?_) (fun h1 => ?_)
  · have hS : kvoice a p0 p1 p2 = (-1000001, kF a 1) := if_pos (Or.inl (kIn_n h1))
    refine kv_aload_n dX12_voice_18 rfl ?_
    refine kv_ldc dX12_voice_19 kX12_83 ?_
    refine kw_Vi [_] mX12_finding dX12_voice_21 lX12_84 wX12_finding kC12 hu rfl (by first | rfl | assumption) rfl rfl rfl (qX12_finding (by exact hu) 1 (by decide) (by decide) _ (by decide)) (by decide) ?_
    exact kv_iret dX12_voice_24 rfl (by rw [hS]; exact kOM.no hm hu rfl)
  · have n1 : ¬ kOut p0 0 (a 0 4 - 1) := kIn_y h1
    refine kv_iload_n dX12_voice_9 rfl ?_
    refine kv_iconst dX12_voice_10 0 ki_0 ?_
    refine kv_iconst dX12_voice_11 3 ki_3 ?_
    refine kw_Si [_, _, _] mX12_within dX12_voice_12 lX12_78 wX12_within rfl rfl rfl (qX12_within (by exact hu) _ _ _) (by decide) ?_
    refine kw_bne dX12_voice_15 25 (by decide) (fun h2 => ?_) (fun h2 => ?_)
    · have n2 : ¬ kOut p1 0 3 := kIn_y h2
      have hS : kvoice a p0 p1 p2 = _ := if_neg (fun q => q.elim n1 n2)
      obtain ⟨e, he, rfl⟩ := hg.at (k := 4) rfl n1
      obtain ⟨act, ha3, rfl⟩ := kOut.bd (n := 3) (by omega) n2
      have hact : act < 4 := by omega
      rw [nI_clamp (by omega), nI_clamp (by omega)] at hS
      have hkd := kKind_n (a 0) e
      refine kv_aload_n dX12_voice_25 rfl ?_
      refine kv_iconst dX12_voice_26 0 ki_0 ?_
      refine kw_pI dX12_voice_27 fX12_362 hu (by first | rfl | assumption) rfl rfl ?_
      refine kv_aload_n dX12_voice_30 rfl ?_
      refine kv_iload_n dX12_voice_31 rfl ?_
      refine kw_pI dX12_voice_32 fX12_380 hu (by first | rfl | assumption) rfl rfl ?_
      refine kv_aload_n dX12_voice_35 rfl ?_
      refine kv_aload_n dX12_voice_36 rfl ?_
      refine kv_iload_n dX12_voice_37 rfl ?_
      refine kw_VQ [_] mX12_kindOf dX12_voice_38 lX12_301 wX12_kindOf kC12 hu rfl (by first | rfl | assumption) rfl rfl rfl (rX12_kindOf (by exact hu) ((kv_si_row (by decide)).trans ((kv_si_row (by decide)).trans eg)) hg e he) (by decide) (fun _ v1 q1 => ?_)
      obtain ⟨rfl, e0⟩ := q1
      have hv1 : kWd v1 := e0.wd hu
      have R1 : ∀ b, b ≠ 413 → b ≠ 420 → v1.2.1 b = u.2.1 b := fun b h1 h2 => (e0.row (fun k => by unfold kSP; omega)).trans ((kv_si_row h1).trans (kv_si_row h1))
      refine kw_pI dX12_voice_41 fX12_365 hv1 (by first | rfl | assumption) rfl rfl ?_
      refine kv_aload_n dX12_voice_44 rfl ?_
      refine kv_iconst dX12_voice_45 0 ki_0 ?_
      refine kw_pZ dX12_voice_46 fX12_374 hv1 (by first | rfl | assumption) rfl rfl (by first | exact Or.inl rfl | exact Or.inr rfl | assumption) ?_
      have hs0 : kVM (kv_si (kv_si v1 413 26 (kKind (a 0) e)) 413 27 0) (kKind (a 0) e).toNatClampNeg e (a 4, 0, 0) (kv_si (kv_si v1 413 26 (kKind (a 0) e)) 413 27 0) := ⟨kEq.rf, by rw [kv_si_row (by omega), kv_si_row (by omega), R1 428 (by omega) (by omega)]; exact hm.2.2.2.2.1, by rw [kv_si_n (by omega), kv_si_n (by omega), e0.2.2.1 _ _ (by unfold kSP; omega), kv_si_n (by omega), kv_si_s]; rfl, Nat.zero_le 30, kv_si_s _ _ _ _, Or.inl rfl, by rw [kv_si_n (by omega), kv_si_n (by omega), e0.2.2.1 _ _ (by unfold kSP; omega), kv_si_s], by rw [kv_si_n (by omega), kv_si_s]; exact hkd.1⟩
      have egm : (kv_si (kv_si v1 413 26 (kKind (a 0) e)) 413 27 0).2.1 414 = a 0 := by rw [kv_si_row (by omega), kv_si_row (by omega), R1 414 (by omega) (by omega)]; exact eg
      refine kv_aload_n dX12_voice_49 rfl ?_
      refine kv_iload_n dX12_voice_50 rfl ?_
      refine kv_iload_n dX12_voice_51 rfl ?_
      refine kw_VQ [_, _] mX12_voiced dX12_voice_52 lX12_386 wX12_voiced kC12 hv1 rfl (by first | rfl | assumption) rfl rfl rfl (qX12_voiced (by exact hv1) egm hkd.2 (by omega) (qX12_bodyFrom (by exact hv1) egm hkd.2 (by omega) 8) act p2 hact (kFu_8 _ hkd.2 act hact) hs0) (by decide) (fun _ v2 q2 => ?_)
      obtain ⟨rfl, hs1⟩ := q2
      have hv2 : kWd v2 := hs1.1.wd hv1
      have R2 : ∀ b, b ≠ 413 → b ≠ 420 → b ≠ 428 → v2.2.1 b = u.2.1 b := fun b h1 h2 h3 => (hs1.1.row (fun k => by unfold kSN; omega)).trans ((kv_si_row h1).trans ((kv_si_row h1).trans (R1 b h1 h2)))
      have F2 : v2.2.1 413 2 = u.2.1 413 2 := by rw [hs1.1.2.2.1 _ _ (by unfold kSN; omega), kv_si_n (by omega), kv_si_n (by omega), e0.2.2.1 _ _ (by unfold kSP; omega), kv_si_n (by omega), kv_si_n (by omega)]
      have hm2 := hm.voi R2 F2 hs1.2.1 hs1.2.2.1
      refine kv_istore (ls2 := [_, _, _, _, _]) dX12_voice_55 rfl rfl rfl rfl ?_
      refine kv_aload_n dX12_voice_57 rfl ?_
      refine kw_gI dX12_voice_58 fX12_374 hv2 (by first | rfl | assumption) rfl rfl ?_
      rw [hs1.2.2.2.2.1]
      refine kv_if_eq dX12_voice_61 74 (by decide) (fun h3 => ?_) (fun h3 => ?_)
      · rw [if_pos (show (kvoR a e act p2).2.2.2 = 0 from h3)] at hS
        refine kv_iload dX12_voice_74 rfl ?_
        exact kv_iret dX12_voice_76 rfl (by rw [hS]; first | exact kOM.pre (fun b hb => R2 b (by omega) (by omega) (by omega)) (kOM.no hm2 hv2 rfl) | exact ⟨rfl, hv2, fun b hb => R2 b (by omega) (by omega) (by omega), hm2⟩)
      · rw [if_neg (show ¬ (kvoR a e act p2).2.2.2 = 0 from h3)] at hS
        refine kv_aload_n dX12_voice_64 rfl ?_
        refine kv_ldcw dX12_voice_65 kX12_389 ?_
        refine kw_Vi [_] mX12_finding dX12_voice_68 lX12_84 wX12_finding kC12 hv2 rfl (by first | rfl | assumption) rfl rfl rfl (qX12_finding (by exact hv2) 6 (by decide) (by decide) _ (by decide)) (by decide) ?_
        refine kv_goto dX12_voice_71 76 (by decide) ?_
        exact kv_iret dX12_voice_76 rfl (by rw [hS]; first | exact kOM.pre (fun b hb => R2 b (by omega) (by omega) (by omega)) (kOM.no hm2 hv2 rfl) | exact ⟨rfl, hv2, fun b hb => R2 b (by omega) (by omega) (by omega), hm2⟩)
    · have hS : kvoice a p0 p1 p2 = (-1000001, kF a 1) := if_pos (Or.inr (kIn_n h2))
      refine kv_aload_n dX12_voice_18 rfl ?_
      refine kv_ldc dX12_voice_19 kX12_83 ?_
      refine kw_Vi [_] mX12_finding dX12_voice_21 lX12_84 wX12_finding kC12 hu rfl (by first | rfl | assumption) rfl rfl rfl (qX12_finding (by exact hu) 1 (by decide) (by decide) _ (by decide)) (by decide) ?_
      exact kv_iret dX12_voice_24 rfl (by rw [hS]; exact kOM.no hm hu rfl)

theorem kIte30 {c : Prop} [Decidable c] {p q : Int32 × kVS} (hp : p.2.2.1 ≤ 30) (hq : q.2.2.1 ≤ 30) : (if c then p else q).2.2.1 ≤ 30 := by
  by_cases h : c
  · rw [if_pos h]; exact hp
  · rw [if_neg h]; exact hq
theorem kWk_le {sp : Nat → Nat → Int32 → kVS → Int32 × kVS} (hsp : ∀ fr act x s, s.2.1 ≤ 30 → (sp fr act x s).2.2.1 ≤ 30) (K : Nat) (h n : Int32) (b : Nat) (x : Int32) {s : kVS} (hs : s.2.1 ≤ 30) : (kWk sp K h n b x s).2.2.1 ≤ 30 := by
  unfold kWk
  repeat' refine kIte30 ?_ ?_
  all_goals first | exact hs | exact hsp _ _ _ _ hs | exact hsp _ _ _ _ (hsp _ _ _ _ hs)
theorem kSp_le (K : Nat) (h n : Int32) : ∀ f fr act x (s : kVS), s.2.1 ≤ 30 → (kSp K h n f fr act x s).2.2.1 ≤ 30
  | 0, _, _, _, _, hs => hs
  | f + 1, fr, act, x, s, hs => by
    unfold kSp
    split
    · exact hs
    · refine kWk_le (fun fr act x s hs => kSp_le K h n f fr act x s hs) K h n _ x ?_
      unfold kTr
      split
      · show s.2.1 + 1 ≤ 30; omega
      · exact hs
theorem kvoice_ok {a : KA} (ho : kOk a) (p0 p1 p2 : Int32) : kOk (kvoice a p0 p1 p2).2 := by
  have h30 : ∀ e act x, (kvoR a e act x).2.2.1 ≤ 30 := fun e act x => kSp_le _ _ _ 8 _ act x (a 4, 0, 0) (Nat.zero_le 30)
  unfold kvoice
  split
  · exact ho.fnd 1
  · split
    · exact ho.voi (h30 _ _ _)
    · exact (ho.voi (h30 _ _ _)).fnd 6
