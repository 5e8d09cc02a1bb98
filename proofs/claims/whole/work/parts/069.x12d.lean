/-- whether an entry is disputed -/
noncomputable def kDisp (g : Nat → Int32) (e : Nat) : Prop :=
  if 0 ≤ kInF g 2 (g (328 + 7 * kN g (1128 + 5 * e + 0) + 2)) (kN g 3) then ¬ kGiven g (kInF g 2 (g (328 + 7 * kN g (1128 + 5 * e + 0) + 2)) (kN g 3)).toNatClampNeg (g (1128 + 5 * e + 2)) (kClm g (kN g (1128 + 5 * e + 0)) (kN g (1128 + 5 * e + 1))) (g 13) 0 = 0
  else ¬ g (1128 + 5 * e + 2) ≤ kClm g (kN g (1128 + 5 * e + 0)) (kN g (1128 + 5 * e + 1)) + g 13
noncomputable def kKind (g : Nat → Int32) (e : Nat) : Int32 :=
  if ¬ e ≤ kFst g e then 4 else @ite _ (kDisp g e) (Classical.propDecidable _) 3 (@ite _ (kTot g (kN g (1128 + 5 * e + 0)) (kN g (1128 + 5 * e + 1))) (Classical.propDecidable _) 2 1)
theorem kGI.ent {g : Nat → Int32} (h : kGI g) {e : Nat} (he : e < kN g 4) : g (1128 + 5 * e + 0) = nI (kN g (1128 + 5 * e + 0)) ∧ kN g (1128 + 5 * e + 0) < kN g 2 ∧ g (1128 + 5 * e + 1) = nI (kN g (1128 + 5 * e + 1)) ∧ kN g (1128 + 5 * e + 1) < 2 := by
  obtain ⟨⟨x, hx, ex⟩, hs, -⟩ := h.2.2.2.2.2.2.2.1 e he
  have hx20 := (h.cnt (k := 2) rfl).2
  have e1 : kN g (1128 + 5 * e + 0) = x := by unfold kN; rw [ex, nI_clamp (by omega)]
  have h2 := hs.n (by omega)
  rw [e1]
  exact ⟨ex, hx, h2.1, Nat.lt_succ_of_le h2.2⟩
set_option maxRecDepth 20000 in
set_option maxHeartbeats 4000000 in
theorem qX12_agreed {w : KW} {l : Launch} {u : KMem} (hu : kWd u) {g : Nat → Int32} (eg : u.2.1 414 = g) (hg : kGI g) (x : Nat) (hx : x < kN g 2) : KC w l mX12_agreed 5 0 0 [.ref 413, .int (nI x)] u (kp kSM u (some (.int (kAgr g x)))) := by
  have hx20 := (hg.cnt (k := 2) rfl).2
  have hc30 := (hg.cnt (k := 0) rfl).2
  have ht10 := (hg.cnt (k := 3) rfl).2
  have he40 := (hg.cnt (k := 4) rfl).2
  refine KC.of (ls := [_, _, _, _, _, _]) rfl rfl (Nat.le_of_ble_eq_true rfl) ?_
  refine kv_aload_n dX12_agreed_0 rfl ?_
  refine kv_iload_n dX12_agreed_1 rfl ?_
  refine kw_Vi [_] mX12_left dX12_agreed_2 lX12_139 wX12_left kC12 hu rfl (by first | rfl | assumption) rfl rfl rfl (gX12_left hu eg hg x hx) (by decide) ?_
  refine kv_istore_n (ls2 := [_, _, _, _, _, _]) dX12_agreed_5 rfl rfl rfl rfl ?_
  refine kv_aload_n dX12_agreed_6 rfl ?_
  refine kv_iconst dX12_agreed_7 0 ki_0 ?_
  refine kv_aload_n dX12_agreed_8 rfl ?_
  refine kv_iload_n dX12_agreed_9 rfl ?_
  refine kv_iconst dX12_agreed_10 2 ki_2 ?_
  refine kw_Vi [_, _] mX12_crash_ dX12_agreed_11 lX12_113 wX12_crash_ kC12 hu rfl (by first | rfl | assumption) rfl rfl rfl (gX12_crash_ hu eg x 2 (by omega) (by decide)) (by decide) ?_
  refine kw_Vi [_, _] mX12_inForce dX12_agreed_14 lX12_142 wX12_inForce kC12 hu rfl (by first | rfl | assumption) rfl rfl rfl (gX12_inForce hu eg hg _ _) (by decide) ?_
  refine kv_istore_n (ls2 := [_, _, _, _, _, _]) dX12_agreed_17 rfl rfl rfl rfl ?_
  refine kv_aload_n dX12_agreed_18 rfl ?_
  refine kv_iload_n dX12_agreed_19 rfl ?_
  refine kv_iconst dX12_agreed_20 0 ki_0 ?_
  refine kw_Vi [_, _] mX12_end dX12_agreed_21 lX12_145 wX12_end kC12 hu rfl (by first | rfl | assumption) rfl rfl rfl (gX12_end0 hu eg hg _) (by decide) ?_
  refine kv_istore (ls2 := [_, _, _, _, _, _]) dX12_agreed_24 rfl rfl rfl rfl ?_
  refine kv_aload_n dX12_agreed_26 rfl ?_
  refine kv_iload_n dX12_agreed_27 rfl ?_
  refine kv_iconst dX12_agreed_28 1 ki_1 ?_
  refine kw_Vi [_, _] mX12_end dX12_agreed_29 lX12_145 wX12_end kC12 hu rfl (by first | rfl | assumption) rfl rfl rfl (gX12_end1 hu eg hg _) (by decide) ?_
  refine kv_istore (ls2 := [_, _, _, _, _, _]) dX12_agreed_32 rfl rfl rfl rfl ?_
  refine kv_iload_n dX12_agreed_34 rfl ?_
  refine kv_if_ge dX12_agreed_35 48 (by decide) (fun h1 => ?_) (fun h1 => ?_)
  · have hT := kInF_ge (by omega) h1
    have hc := h1
    refine kv_aload_n dX12_agreed_48 rfl ?_
    refine kv_iload_n dX12_agreed_49 rfl ?_
    rw [hT.2]
    refine kv_iload dX12_agreed_50 rfl ?_
    refine kv_iload dX12_agreed_52 rfl ?_
    refine kv_iload_n dX12_agreed_54 rfl ?_
    refine kw_Si [_] mX12_bits dX12_agreed_55 lX12_149 wX12_bits rfl rfl rfl (qX12_bits hu _) (by decide) ?_
    refine kv_aload_n dX12_agreed_58 rfl ?_
    refine kv_iload_n dX12_agreed_59 rfl ?_
    refine kv_iconst dX12_agreed_60 3 ki_3 ?_
    refine kw_Vi [_, _] mX12_crash_ dX12_agreed_61 lX12_113 wX12_crash_ kC12 hu rfl (by first | rfl | assumption) rfl rfl rfl (gX12_crash_ hu eg x 3 (by omega) (by decide)) (by decide) ?_
    refine kw_Vpi [_, _, _, _, _] mX12_given dX12_agreed_64 lX12_152 wX12_given kC12 hu rfl (by first | rfl | assumption) rfl rfl rfl (gX12_given hu eg hg _ hT.1 _ _ _ _) (by decide) (fun v1 e1 => ?_)
    have hu1 := e1.wd hu
    have E1 := e1
    have eg1 : v1.2.1 414 = g := (E1.row kSM_now).trans eg
    refine kv_bipush dX12_agreed_67 100 kb_100 ?_
    refine kw_Si [_, _] mX12_hold dX12_agreed_69 lX12_156 wX12_hold rfl rfl rfl (qX12_hold hu1 _ _) (by decide) ?_
    exact kv_iret dX12_agreed_72 rfl ⟨by unfold kAgr; first | (rw [if_pos hc]; rfl) | (rw [if_neg hc]; rfl), E1⟩
  · have hc := h1
    refine kv_iload dX12_agreed_38 rfl ?_
    refine kv_iload dX12_agreed_40 rfl ?_
    refine kv_iadd dX12_agreed_42 ?_
    refine kv_iconst dX12_agreed_43 2 ki_2 ?_
    refine kv_idiv dX12_agreed_44 (by decide) ?_
    refine kv_goto dX12_agreed_45 67 (by decide) ?_
    refine kv_bipush dX12_agreed_67 100 kb_100 ?_
    refine kw_Si [_, _] mX12_hold dX12_agreed_69 lX12_156 wX12_hold rfl rfl rfl (qX12_hold hu _ _) (by decide) ?_
    exact kv_iret dX12_agreed_72 rfl ⟨by unfold kAgr; first | (rw [if_pos hc]; rfl) | (rw [if_neg hc]; rfl), kEq.rf⟩

set_option maxRecDepth 20000 in
set_option maxHeartbeats 4000000 in
theorem qX12_claimOf {w : KW} {l : Launch} {u : KMem} (hu : kWd u) {g : Nat → Int32} (eg : u.2.1 414 = g) (hg : kGI g) (x s : Nat) (hx : x < kN g 2) (hs : s < 2) : KC w l mX12_claimOf 7 0 0 [.ref 413, .int (nI x), .int (nI s)] u (kp kSM u (some (.int (kClm g x s)))) := by
  have hx20 := (hg.cnt (k := 2) rfl).2
  have hc30 := (hg.cnt (k := 0) rfl).2
  have ht10 := (hg.cnt (k := 3) rfl).2
  have he40 := (hg.cnt (k := 4) rfl).2
  refine KC.of (ls := [_, _, _, _]) rfl rfl (Nat.le_of_ble_eq_true rfl) ?_
  refine kv_iload_n dX12_claimOf_0 rfl ?_
  refine kv_if_ne dX12_claimOf_1 15 (by decide) (fun h1 => ?_) (fun h1 => ?_)
  · have hs1 : ¬ s = 0 := fun q => h1 (by rw [q]; rfl)
    refine kv_aload_n dX12_claimOf_15 rfl ?_
    refine kv_iload_n dX12_claimOf_16 rfl ?_
    refine kw_Vpi [_] mX12_agreed dX12_claimOf_17 lX12_159 wX12_agreed kC12 hu rfl (by first | rfl | assumption) rfl rfl rfl (qX12_agreed hu eg hg x hx) (by decide) (fun v1 e1 => ?_)
    have hu1 := e1.wd hu
    have E1 := e1
    have eg1 : v1.2.1 414 = g := (E1.row kSM_now).trans eg
    refine kv_istore_n (ls2 := [_, _, _, _]) dX12_claimOf_20 rfl rfl rfl rfl ?_
    refine kv_aload_n dX12_claimOf_21 rfl ?_
    refine kv_iload_n dX12_claimOf_22 rfl ?_
    refine kv_iload_n dX12_claimOf_23 rfl ?_
    refine kw_Vi [_, _] mX12_lossOf dX12_claimOf_24 lX12_174 wX12_lossOf kC12 hu1 rfl (by first | rfl | assumption) rfl rfl rfl (gX12_lossOf hu1 eg1 hg x s hx hs) (by decide) ?_
    refine kv_aload_n dX12_claimOf_27 rfl ?_
    refine kv_iload_n dX12_claimOf_28 rfl ?_
    refine kv_iload_n dX12_claimOf_29 rfl ?_
    refine kw_Vi [_, _] mX12_hireDays dX12_claimOf_30 lX12_177 wX12_hireDays kC12 hu1 rfl (by first | rfl | assumption) rfl rfl rfl (gX12_hireDays hu1 eg1 hg x s hx hs) (by decide) ?_
    refine kv_aload_n dX12_claimOf_33 rfl ?_
    refine kw_gR dX12_claimOf_34 fX12_9 hu1 (by first | rfl | assumption) rfl rfl (by first | rfl | assumption) ?_
    refine kv_bipush dX12_claimOf_37 12 kb_12 ?_
    refine kw_ig dX12_claimOf_39 hu1 eg1 rfl (_) (show (12 : Int32) = nI 12 from rfl) (by omega) rfl ?_
    refine kv_imul dX12_claimOf_40 ?_
    refine kv_iadd dX12_claimOf_41 ?_
    refine kv_iload_n dX12_claimOf_42 rfl ?_
    refine kv_imul dX12_claimOf_43 ?_
    refine kv_bipush dX12_claimOf_44 100 kb_100 ?_
    refine kv_idiv dX12_claimOf_46 (by decide) ?_
    exact kv_iret dX12_claimOf_47 rfl ⟨by unfold kClm; first | rw [if_pos ‹s = 0›] | rw [if_neg ‹¬ s = 0›], E1⟩
  · have hs0 : s = 0 := (kn_eq (by omega) (by omega)).mp h1
    refine kv_bipush dX12_claimOf_4 100 kb_100 ?_
    refine kv_aload_n dX12_claimOf_6 rfl ?_
    refine kv_iload_n dX12_claimOf_7 rfl ?_
    refine kw_Vpi [_] mX12_agreed dX12_claimOf_8 lX12_159 wX12_agreed kC12 hu rfl (by first | rfl | assumption) rfl rfl rfl (qX12_agreed hu eg hg x hx) (by decide) (fun v1 e1 => ?_)
    have hu1 := e1.wd hu
    have E1 := e1
    have eg1 : v1.2.1 414 = g := (E1.row kSM_now).trans eg
    refine kv_isub dX12_claimOf_11 ?_
    refine kv_goto dX12_claimOf_12 20 (by decide) ?_
    refine kv_istore_n (ls2 := [_, _, _, _]) dX12_claimOf_20 rfl rfl rfl rfl ?_
    refine kv_aload_n dX12_claimOf_21 rfl ?_
    refine kv_iload_n dX12_claimOf_22 rfl ?_
    refine kv_iload_n dX12_claimOf_23 rfl ?_
    refine kw_Vi [_, _] mX12_lossOf dX12_claimOf_24 lX12_174 wX12_lossOf kC12 hu1 rfl (by first | rfl | assumption) rfl rfl rfl (gX12_lossOf hu1 eg1 hg x s hx hs) (by decide) ?_
    refine kv_aload_n dX12_claimOf_27 rfl ?_
    refine kv_iload_n dX12_claimOf_28 rfl ?_
    refine kv_iload_n dX12_claimOf_29 rfl ?_
    refine kw_Vi [_, _] mX12_hireDays dX12_claimOf_30 lX12_177 wX12_hireDays kC12 hu1 rfl (by first | rfl | assumption) rfl rfl rfl (gX12_hireDays hu1 eg1 hg x s hx hs) (by decide) ?_
    refine kv_aload_n dX12_claimOf_33 rfl ?_
    refine kw_gR dX12_claimOf_34 fX12_9 hu1 (by first | rfl | assumption) rfl rfl (by first | rfl | assumption) ?_
    refine kv_bipush dX12_claimOf_37 12 kb_12 ?_
    refine kw_ig dX12_claimOf_39 hu1 eg1 rfl (_) (show (12 : Int32) = nI 12 from rfl) (by omega) rfl ?_
    refine kv_imul dX12_claimOf_40 ?_
    refine kv_iadd dX12_claimOf_41 ?_
    refine kv_iload_n dX12_claimOf_42 rfl ?_
    refine kv_imul dX12_claimOf_43 ?_
    refine kv_bipush dX12_claimOf_44 100 kb_100 ?_
    refine kv_idiv dX12_claimOf_46 (by decide) ?_
    exact kv_iret dX12_claimOf_47 rfl ⟨by unfold kClm; first | rw [if_pos ‹s = 0›] | rw [if_neg ‹¬ s = 0›], E1⟩

set_option maxRecDepth 20000 in
set_option maxHeartbeats 4000000 in
theorem qX12_firstOf {w : KW} {l : Launch} {u : KMem} (hu : kWd u) {g : Nat → Int32} (eg : u.2.1 414 = g) (hg : kGI g) (e : Nat) (he : e < kN g 4) : KC w l mX12_firstOf 1 0 0 [.ref 413, .int (nI e)] u (kq (some (.int (nI (kFst g e)))) u) := by
  have hx20 := (hg.cnt (k := 2) rfl).2
  have hc30 := (hg.cnt (k := 0) rfl).2
  have ht10 := (hg.cnt (k := 3) rfl).2
  have he40 := (hg.cnt (k := 4) rfl).2
  have hfe := kFst_le g e
  refine KC.of (ls := [_, _, _]) rfl rfl (Nat.le_of_ble_eq_true rfl) ?_
  refine kv_iconst dX12_firstOf_0 0 ki_0 ?_
  refine kv_istore_n (ls2 := [_, _, _]) dX12_firstOf_1 rfl rfl rfl rfl ?_
  refine KV.loc (ls2 := [some (.ref 413), some (.int (nI e)), some (.int (nI 0))]) ?_ (ksS rfl (ksS rfl (ksS rfl ksN)))
  refine kn_loop (P := fun i => KV w l mX12_firstOf 1 0 0 2 [some (.ref 413), some (.int (nI e)), some (.int (nI i))] [] u (kq (some (.int (nI (kFst g e)))) u)) (kFst g e) ?_ (fun i hi ih => ?_)
  · refine kv_aload_n dX12_firstOf_2 rfl ?_
    refine kv_iload_n dX12_firstOf_3 rfl ?_
    refine kv_iconst dX12_firstOf_4 0 ki_0 ?_
    refine kw_Vi [_, _] mX12_line dX12_firstOf_5 lX12_292 wX12_line kC12 hu rfl (by first | rfl | assumption) rfl rfl rfl (gX12_line hu eg _ 0 (by omega) (by decide)) (by decide) ?_
    refine kv_aload_n dX12_firstOf_8 rfl ?_
    refine kv_iload_n dX12_firstOf_9 rfl ?_
    refine kv_iconst dX12_firstOf_10 0 ki_0 ?_
    refine kw_Vi [_, _] mX12_line dX12_firstOf_11 lX12_292 wX12_line kC12 hu rfl (by first | rfl | assumption) rfl rfl rfl (gX12_line hu eg e 0 (by omega) (by decide)) (by decide) ?_
    refine kv_icmp_ne dX12_firstOf_14 32 (by decide) (fun h1 => ?_) (fun h1 => ?_)
    · exact absurd (kFst_s g e).1 h1
    · refine kv_aload_n dX12_firstOf_17 rfl ?_
      refine kv_iload_n dX12_firstOf_18 rfl ?_
      refine kv_iconst dX12_firstOf_19 1 ki_1 ?_
      refine kw_Vi [_, _] mX12_line dX12_firstOf_20 lX12_292 wX12_line kC12 hu rfl (by first | rfl | assumption) rfl rfl rfl (gX12_line hu eg _ 1 (by omega) (by decide)) (by decide) ?_
      refine kv_aload_n dX12_firstOf_23 rfl ?_
      refine kv_iload_n dX12_firstOf_24 rfl ?_
      refine kv_iconst dX12_firstOf_25 1 ki_1 ?_
      refine kw_Vi [_, _] mX12_line dX12_firstOf_26 lX12_292 wX12_line kC12 hu rfl (by first | rfl | assumption) rfl rfl rfl (gX12_line hu eg e 1 (by omega) (by decide)) (by decide) ?_
      refine kv_icmp_eq dX12_firstOf_29 38 (by decide) (fun h2 => ?_) (fun h2 => ?_)
      · refine kv_iload_n dX12_firstOf_38 rfl ?_
        exact kv_iret dX12_firstOf_39 rfl ⟨rfl, rfl⟩
      · exact absurd (kFst_s g e).2 h2
  · refine kv_aload_n dX12_firstOf_2 rfl ?_
    refine kv_iload_n dX12_firstOf_3 rfl ?_
    refine kv_iconst dX12_firstOf_4 0 ki_0 ?_
    refine kw_Vi [_, _] mX12_line dX12_firstOf_5 lX12_292 wX12_line kC12 hu rfl (by first | rfl | assumption) rfl rfl rfl (gX12_line hu eg _ 0 (by omega) (by decide)) (by decide) ?_
    refine kv_aload_n dX12_firstOf_8 rfl ?_
    refine kv_iload_n dX12_firstOf_9 rfl ?_
    refine kv_iconst dX12_firstOf_10 0 ki_0 ?_
    refine kw_Vi [_, _] mX12_line dX12_firstOf_11 lX12_292 wX12_line kC12 hu rfl (by first | rfl | assumption) rfl rfl rfl (gX12_line hu eg e 0 (by omega) (by decide)) (by decide) ?_
    refine kv_icmp_ne dX12_firstOf_14 32 (by decide) (fun h3 => ?_) (fun h3 => ?_)
    · refine kv_iinc (ls2 := [_, _, _]) dX12_firstOf_32 (nI (i + 1)) rfl (kv_inc1 i) rfl rfl rfl rfl ?_
      refine kv_goto dX12_firstOf_35 2 (by decide) ?_
      exact KV.loc ih (ksS rfl (ksS rfl (ksS rfl ksN)))
    · refine kv_aload_n dX12_firstOf_17 rfl ?_
      refine kv_iload_n dX12_firstOf_18 rfl ?_
      refine kv_iconst dX12_firstOf_19 1 ki_1 ?_
      refine kw_Vi [_, _] mX12_line dX12_firstOf_20 lX12_292 wX12_line kC12 hu rfl (by first | rfl | assumption) rfl rfl rfl (gX12_line hu eg _ 1 (by omega) (by decide)) (by decide) ?_
      refine kv_aload_n dX12_firstOf_23 rfl ?_
      refine kv_iload_n dX12_firstOf_24 rfl ?_
      refine kv_iconst dX12_firstOf_25 1 ki_1 ?_
      refine kw_Vi [_, _] mX12_line dX12_firstOf_26 lX12_292 wX12_line kC12 hu rfl (by first | rfl | assumption) rfl rfl rfl (gX12_line hu eg e 1 (by omega) (by decide)) (by decide) ?_
      refine kv_icmp_eq dX12_firstOf_29 38 (by decide) (fun h4 => ?_) (fun h4 => ?_)
      · exact (kFst_m hi ⟨by assumption, by assumption⟩).elim
      · refine kv_iinc (ls2 := [_, _, _]) dX12_firstOf_32 (nI (i + 1)) rfl (kv_inc1 i) rfl rfl rfl rfl ?_
        refine kv_goto dX12_firstOf_35 2 (by decide) ?_
        exact KV.loc ih (ksS rfl (ksS rfl (ksS rfl ksN)))

set_option maxRecDepth 20000 in
set_option maxHeartbeats 4000000 in
theorem qX12_isDisputed {w : KW} {l : Launch} {u : KMem} (hu : kWd u) {g : Nat → Int32} (eg : u.2.1 414 = g) (hg : kGI g) (e : Nat) (he : e < kN g 4) : KC w l mX12_isDisputed 8 0 0 [.ref 413, .int (nI e)] u (kp kSM u (some (.int (@ite _ (kDisp g e) (Classical.propDecidable _) 1 0)))) := by
  have hx20 := (hg.cnt (k := 2) rfl).2
  have hc30 := (hg.cnt (k := 0) rfl).2
  have ht10 := (hg.cnt (k := 3) rfl).2
  have he40 := (hg.cnt (k := 4) rfl).2
  have hE := hg.ent he
  refine KC.of (ls := [_, _, _, _, _, _]) rfl rfl (Nat.le_of_ble_eq_true rfl) ?_
  refine kv_aload_n dX12_isDisputed_0 rfl ?_
  refine kv_iload_n dX12_isDisputed_1 rfl ?_
  refine kv_iconst dX12_isDisputed_2 0 ki_0 ?_
  refine kw_Vi [_, _] mX12_line dX12_isDisputed_3 lX12_292 wX12_line kC12 hu rfl (by first | rfl | assumption) rfl rfl rfl (gX12_line hu eg e 0 (by omega) (by decide)) (by decide) ?_
  rw [hE.1]
  refine kv_istore_n (ls2 := [_, _, _, _, _, _]) dX12_isDisputed_6 rfl rfl rfl rfl ?_
  refine kv_aload_n dX12_isDisputed_7 rfl ?_
  refine kv_iload_n dX12_isDisputed_8 rfl ?_
  refine kv_aload_n dX12_isDisputed_9 rfl ?_
  refine kv_iload_n dX12_isDisputed_10 rfl ?_
  refine kv_iconst dX12_isDisputed_11 1 ki_1 ?_
  refine kw_Vi [_, _] mX12_line dX12_isDisputed_12 lX12_292 wX12_line kC12 hu rfl (by first | rfl | assumption) rfl rfl rfl (gX12_line hu eg e 1 (by omega) (by decide)) (by decide) ?_
  rw [hE.2.2.1]
  refine kw_Vpi [_, _] mX12_claimOf dX12_isDisputed_15 lX12_180 wX12_claimOf kC12 hu rfl (by first | rfl | assumption) rfl rfl rfl (qX12_claimOf hu eg hg _ _ hE.2.1 hE.2.2.2) (by decide) (fun v1 e1 => ?_)
  have hu1 := e1.wd hu
  have E1 := e1
  have eg1 : v1.2.1 414 = g := (E1.row kSM_now).trans eg
  refine kv_istore_n (ls2 := [_, _, _, _, _, _]) dX12_isDisputed_18 rfl rfl rfl rfl ?_
  refine kv_aload_n dX12_isDisputed_19 rfl ?_
  refine kv_iload_n dX12_isDisputed_20 rfl ?_
  refine kv_iconst dX12_isDisputed_21 2 ki_2 ?_
  refine kw_Vi [_, _] mX12_line dX12_isDisputed_22 lX12_292 wX12_line kC12 hu1 rfl (by first | rfl | assumption) rfl rfl rfl (gX12_line hu1 eg1 e 2 (by omega) (by decide)) (by decide) ?_
  refine kv_istore (ls2 := [_, _, _, _, _, _]) dX12_isDisputed_25 rfl rfl rfl rfl ?_
  refine kv_aload_n dX12_isDisputed_27 rfl ?_
  refine kv_iconst dX12_isDisputed_28 2 ki_2 ?_
  refine kv_aload_n dX12_isDisputed_29 rfl ?_
  refine kv_iload_n dX12_isDisputed_30 rfl ?_
  refine kv_iconst dX12_isDisputed_31 2 ki_2 ?_
  refine kw_Vi [_, _] mX12_crash_ dX12_isDisputed_32 lX12_113 wX12_crash_ kC12 hu1 rfl (by first | rfl | assumption) rfl rfl rfl (gX12_crash_ hu1 eg1 _ 2 (by have := hE.2.1; omega) (by decide)) (by decide) ?_
  refine kw_Vi [_, _] mX12_inForce dX12_isDisputed_35 lX12_142 wX12_inForce kC12 hu1 rfl (by first | rfl | assumption) rfl rfl rfl (gX12_inForce hu1 eg1 hg _ _) (by decide) ?_
  refine kv_istore (ls2 := [_, _, _, _, _, _]) dX12_isDisputed_38 rfl rfl rfl rfl ?_
  refine kv_iload dX12_isDisputed_40 rfl ?_
  refine kv_if_ge dX12_isDisputed_42 67 (by decide) (fun h1 => ?_) (fun h1 => ?_)
  · have hT := kInF_ge (by omega) h1
    have hc := h1
    refine kv_aload_n dX12_isDisputed_67 rfl ?_
    refine kv_iload dX12_isDisputed_68 rfl ?_
    rw [hT.2]
    refine kv_iload dX12_isDisputed_70 rfl ?_
    refine kv_iload_n dX12_isDisputed_72 rfl ?_
    refine kv_aload_n dX12_isDisputed_73 rfl ?_
    refine kw_gR dX12_isDisputed_74 fX12_9 hu1 (by first | rfl | assumption) rfl rfl (by first | rfl | assumption) ?_
    refine kv_bipush dX12_isDisputed_77 13 kb_13 ?_
    refine kw_ig dX12_isDisputed_79 hu1 eg1 rfl (_) (show (13 : Int32) = nI 13 from rfl) (by omega) rfl ?_
    refine kv_iconst dX12_isDisputed_80 0 ki_0 ?_
    refine kw_Vpi [_, _, _, _, _] mX12_given dX12_isDisputed_81 lX12_152 wX12_given kC12 hu1 rfl (by first | rfl | assumption) rfl rfl rfl (gX12_given hu1 eg1 hg _ hT.1 _ _ _ _) (by decide) (fun v2 e2 => ?_)
    have hu2 := e2.wd hu1
    have E2 := E1.tr e2
    have eg2 : v2.2.1 414 = g := (E2.row kSM_now).trans eg
    refine kv_if_eq dX12_isDisputed_84 91 (by decide) (fun h2 => ?_) (fun h2 => ?_)
    · refine kv_iconst dX12_isDisputed_91 0 ki_0 ?_
      exact kv_zret dX12_isDisputed_92 rfl kv_z0 ⟨by first | rw [if_pos (show kDisp g e by unfold kDisp; first | (rw [if_pos hc]; assumption) | (rw [if_neg hc]; assumption))] | rw [if_neg (show ¬ kDisp g e by unfold kDisp; first | (rw [if_pos hc]; exact fun q => q ‹_›) | (rw [if_neg hc]; exact fun q => q ‹_›))], E2⟩
    · refine kv_iconst dX12_isDisputed_87 1 ki_1 ?_
      refine kv_goto dX12_isDisputed_88 92 (by decide) ?_
      exact kv_zret dX12_isDisputed_92 rfl kv_z1 ⟨by first | rw [if_pos (show kDisp g e by unfold kDisp; first | (rw [if_pos hc]; assumption) | (rw [if_neg hc]; assumption))] | rw [if_neg (show ¬ kDisp g e by unfold kDisp; first | (rw [if_pos hc]; exact fun q => q ‹_›) | (rw [if_neg hc]; exact fun q => q ‹_›))], E2⟩
  · have hc := h1
    refine kv_iload dX12_isDisputed_45 rfl ?_
    refine kv_iload_n dX12_isDisputed_47 rfl ?_
    refine kv_aload_n dX12_isDisputed_48 rfl ?_
    refine kw_gR dX12_isDisputed_49 fX12_9 hu1 (by first | rfl | assumption) rfl rfl (by first | rfl | assumption) ?_
    refine kv_bipush dX12_isDisputed_52 13 kb_13 ?_
    refine kw_ig dX12_isDisputed_54 hu1 eg1 rfl (_) (show (13 : Int32) = nI 13 from rfl) (by omega) rfl ?_
    refine kv_iadd dX12_isDisputed_55 ?_
    refine kv_icmp_le dX12_isDisputed_56 63 (by decide) (fun h3 => ?_) (fun h3 => ?_)
    · refine kv_iconst dX12_isDisputed_63 0 ki_0 ?_
      refine kv_goto dX12_isDisputed_64 92 (by decide) ?_
      exact kv_zret dX12_isDisputed_92 rfl kv_z0 ⟨by first | rw [if_pos (show kDisp g e by unfold kDisp; first | (rw [if_pos hc]; assumption) | (rw [if_neg hc]; assumption))] | rw [if_neg (show ¬ kDisp g e by unfold kDisp; first | (rw [if_pos hc]; exact fun q => q ‹_›) | (rw [if_neg hc]; exact fun q => q ‹_›))], E1⟩
    · refine kv_iconst dX12_isDisputed_59 1 ki_1 ?_
      refine kv_goto dX12_isDisputed_60 92 (by decide) ?_
      exact kv_zret dX12_isDisputed_92 rfl kv_z1 ⟨by first | rw [if_pos (show kDisp g e by unfold kDisp; first | (rw [if_pos hc]; assumption) | (rw [if_neg hc]; assumption))] | rw [if_neg (show ¬ kDisp g e by unfold kDisp; first | (rw [if_pos hc]; exact fun q => q ‹_›) | (rw [if_neg hc]; exact fun q => q ‹_›))], E1⟩

set_option maxRecDepth 20000 in
set_option maxHeartbeats 4000000 in
theorem qX12_kindOf {w : KW} {l : Launch} {u : KMem} (hu : kWd u) {g : Nat → Int32} (eg : u.2.1 414 = g) (hg : kGI g) (e : Nat) (he : e < kN g 4) : KC w l mX12_kindOf 9 0 0 [.ref 413, .int (nI e)] u (kp kSM u (some (.int (kKind g e)))) := by
  have hx20 := (hg.cnt (k := 2) rfl).2
  have hc30 := (hg.cnt (k := 0) rfl).2
  have ht10 := (hg.cnt (k := 3) rfl).2
  have he40 := (hg.cnt (k := 4) rfl).2
  have hE := hg.ent he
  have hfe := kFst_le g e
  refine KC.of (ls := [_, _]) rfl rfl (Nat.le_of_ble_eq_true rfl) ?_
  refine kv_aload_n dX12_kindOf_0 rfl ?_
  refine kv_iload_n dX12_kindOf_1 rfl ?_
  refine kw_Vi [_] mX12_firstOf dX12_kindOf_2 lX12_295 wX12_firstOf kC12 hu rfl (by first | rfl | assumption) rfl rfl rfl (qX12_firstOf hu eg hg e he) (by decide) ?_
  refine kv_iload_n dX12_kindOf_5 rfl ?_
  refine kv_icmp_ge dX12_kindOf_6 13 (by decide) (fun h1 => ?_) (fun h1 => ?_)
  · have hf : ¬ ¬ e ≤ kFst g e := fun q => q ((nI_leI (by omega) (by omega)).mp h1)
    refine kv_aload_n dX12_kindOf_13 rfl ?_
    refine kv_iload_n dX12_kindOf_14 rfl ?_
    refine kw_Vpi [_] mX12_isDisputed dX12_kindOf_15 lX12_298 wX12_isDisputed kC12 hu rfl (by first | rfl | assumption) rfl rfl rfl (qX12_isDisputed hu eg hg e he) (by decide) (fun v1 e1 => ?_)
    have hu1 := e1.wd hu
    have E1 := e1
    have eg1 : v1.2.1 414 = g := (E1.row kSM_now).trans eg
    refine kw_beq dX12_kindOf_18 25 (by decide) (fun h2 => ?_) (fun h2 => ?_)
    · refine kv_aload_n dX12_kindOf_25 rfl ?_
      refine kv_aload_n dX12_kindOf_26 rfl ?_
      refine kv_iload_n dX12_kindOf_27 rfl ?_
      refine kv_iconst dX12_kindOf_28 0 ki_0 ?_
      refine kw_Vi [_, _] mX12_line dX12_kindOf_29 lX12_292 wX12_line kC12 hu1 rfl (by first | rfl | assumption) rfl rfl rfl (gX12_line hu1 eg1 e 0 (by omega) (by decide)) (by decide) ?_
      rw [hE.1]
      refine kv_aload_n dX12_kindOf_32 rfl ?_
      refine kv_iload_n dX12_kindOf_33 rfl ?_
      refine kv_iconst dX12_kindOf_34 1 ki_1 ?_
      refine kw_Vi [_, _] mX12_line dX12_kindOf_35 lX12_292 wX12_line kC12 hu1 rfl (by first | rfl | assumption) rfl rfl rfl (gX12_line hu1 eg1 e 1 (by omega) (by decide)) (by decide) ?_
      rw [hE.2.2.1]
      refine kw_Vi [_, _] mX12_isTotal dX12_kindOf_38 lX12_171 wX12_isTotal kC12 hu1 rfl (by first | rfl | assumption) rfl rfl rfl (gX12_isTotal hu1 eg1 hg _ _ hE.2.1 hE.2.2.2) (by decide) ?_
      refine kw_beq dX12_kindOf_41 48 (by decide) (fun h3 => ?_) (fun h3 => ?_)
      · refine kv_iconst dX12_kindOf_48 1 ki_1 ?_
        exact kv_iret dX12_kindOf_49 rfl ⟨by unfold kKind; first | (rw [if_pos hf]; done) | (rw [if_neg hf, if_pos ‹kDisp _ _›]; done) | (rw [if_neg hf, if_neg ‹¬ kDisp _ _›, if_pos ‹kTot _ _ _›]; done) | (rw [if_neg hf, if_neg ‹¬ kDisp _ _›, if_neg ‹¬ kTot _ _ _›]; done), E1⟩
      · refine kv_iconst dX12_kindOf_44 2 ki_2 ?_
        refine kv_goto dX12_kindOf_45 49 (by decide) ?_
        exact kv_iret dX12_kindOf_49 rfl ⟨by unfold kKind; first | (rw [if_pos hf]; done) | (rw [if_neg hf, if_pos ‹kDisp _ _›]; done) | (rw [if_neg hf, if_neg ‹¬ kDisp _ _›, if_pos ‹kTot _ _ _›]; done) | (rw [if_neg hf, if_neg ‹¬ kDisp _ _›, if_neg ‹¬ kTot _ _ _›]; done), E1⟩
    · refine kv_iconst dX12_kindOf_21 3 ki_3 ?_
      refine kv_goto dX12_kindOf_22 49 (by decide) ?_
      exact kv_iret dX12_kindOf_49 rfl ⟨by unfold kKind; first | (rw [if_pos hf]; done) | (rw [if_neg hf, if_pos ‹kDisp _ _›]; done) | (rw [if_neg hf, if_neg ‹¬ kDisp _ _›, if_pos ‹kTot _ _ _›]; done) | (rw [if_neg hf, if_neg ‹¬ kDisp _ _›, if_neg ‹¬ kTot _ _ _›]; done), E1⟩
  · have hf : ¬ e ≤ kFst g e := fun q => h1 ((nI_leI (by omega) (by omega)).mpr q)
    refine kv_iconst dX12_kindOf_9 4 ki_4 ?_
    refine kv_goto dX12_kindOf_10 49 (by decide) ?_
    exact kv_iret dX12_kindOf_49 rfl ⟨by unfold kKind; first | (rw [if_pos hf]; done) | (rw [if_neg hf, if_pos ‹kDisp _ _›]; done) | (rw [if_neg hf, if_neg ‹¬ kDisp _ _›, if_pos ‹kTot _ _ _›]; done) | (rw [if_neg hf, if_neg ‹¬ kDisp _ _›, if_neg ‹¬ kTot _ _ _›]; done), kEq.rf⟩

set_option maxRecDepth 20000 in
set_option maxHeartbeats 4000000 in
theorem qX12_above {w : KW} {l : Launch} {u : KMem} (hu : kWd u) (k : Int32) : KC w l mX12_above 0 0 0 [.int k] u (kq (some (.int (kAbove k))) u) := by
  refine KC.of (ls := [_]) rfl rfl (Nat.le_of_ble_eq_true rfl) ?_
  refine kv_iload_n dX12_above_0 rfl ?_
  refine kv_if_ne dX12_above_1 8 (by decide) (fun h1 => ?_) (fun h1 => ?_)
  · refine kv_iload_n dX12_above_8 rfl ?_
    refine kv_iconst dX12_above_9 2 ki_2 ?_
    refine kv_icmp_ne dX12_above_10 17 (by decide) (fun h2 => ?_) (fun h2 => ?_)
    · refine kv_iload_n dX12_above_17 rfl ?_
      refine kv_iconst dX12_above_18 4 ki_4 ?_
      refine kv_icmp_ne dX12_above_19 26 (by decide) (fun h3 => ?_) (fun h3 => ?_)
      · refine kv_iconst dX12_above_26 0 ki_0 ?_
        exact kv_iret dX12_above_27 rfl ⟨by unfold kAbove; simp [*], rfl⟩
      · refine kv_iconst dX12_above_22 3 ki_3 ?_
        refine kv_goto dX12_above_23 27 (by decide) ?_
        exact kv_iret dX12_above_27 rfl ⟨by unfold kAbove; simp [*], rfl⟩
    · refine kv_iconst dX12_above_13 1 ki_1 ?_
      refine kv_goto dX12_above_14 27 (by decide) ?_
      exact kv_iret dX12_above_27 rfl ⟨by unfold kAbove; simp [*], rfl⟩
  · refine kv_iconst dX12_above_4 (-1) ki_m1 ?_
    refine kv_goto dX12_above_5 27 (by decide) ?_
    exact kv_iret dX12_above_27 rfl ⟨by unfold kAbove; simp [*], rfl⟩

