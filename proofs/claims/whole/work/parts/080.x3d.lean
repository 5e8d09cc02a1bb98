set_option maxRecDepth 20000 in
set_option maxHeartbeats 4000000 in
theorem qX3_disputed {w : KW} {l : Launch} {u : KMem} (hu : kWd u) {g : Nat → Int32} (hr : kRS 1 g u) (hg : kGI g) (e : Nat) (he : e < kN g 4) : KC w l mX3_disputed 5 0 0 [.ref 385, .ref (1 + (152 + e))] u (kp kSX u (some (.int (@ite _ (kDisp g e) (Classical.propDecidable _) 1 0)))) := by
  have hx20 := (hg.cnt (k := 2) rfl).2
  have hc30 := (hg.cnt (k := 0) rfl).2
  have ht10 := (hg.cnt (k := 3) rfl).2
  have he40 := (hg.cnt (k := 4) rfl).2
  have hs16 := hg.cnt (k := 1) rfl
  have hE := hg.ent he
  have hx := hE.2.1
  have hs := hE.2.2.2
  have ke := ks_entry e (by omega)
  have ke1 := ke.1
  have ke2 := ke.2
  have kx := ks_crash (kN g (1128 + 5 * e + 0)) (by omega)
  have kx1 := kx.1
  have kx2 := kx.2.1
  have kx3 := kx.2.2.1
  have kx4 := kx.2.2.2.1
  have kx5 := kx.2.2.2.2.1
  have kx6 := kx.2.2.2.2.2
  refine KC.of (ls := [_, _, _, _, _, _]) rfl rfl (Nat.le_of_ble_eq_true rfl) ?_
  refine kv_aload_n dX3_disputed_0 rfl ?_
  refine kw_gR dX3_disputed_1 fX3_18 hu (by first | rfl | assumption) rfl rfl (by first | rfl | assumption) ?_
  refine kw_gR dX3_disputed_4 fX3_159 hu (by first | rfl | assumption) rfl rfl (by first | rfl | assumption) ?_
  refine kv_aload_n dX3_disputed_7 rfl ?_
  refine kw_gI dX3_disputed_8 fX3_163 hu (by first | rfl | assumption) rfl rfl ?_
  rw [hr.ent he 0 (by decide), hE.1]
  refine kw_al (t := 1) (n := 20) dX3_disputed_11 hu rfl rfl ((kN g (1128 + 5 * e + 0))) rfl (by omega) rfl (by first | rfl | assumption) ?_
  refine kv_astore_n (ls2 := [_, _, _, _, _, _]) dX3_disputed_12 rfl rfl rfl rfl ?_
  refine kv_aload_n dX3_disputed_13 rfl ?_
  refine kv_aload_n dX3_disputed_14 rfl ?_
  refine kv_aload_n dX3_disputed_15 rfl ?_
  refine kw_gI dX3_disputed_16 fX3_168 hu (by first | rfl | assumption) rfl rfl ?_
  rw [hr.ent he 1 (by decide), hE.2.2.1]
  refine kw_Vpi [_, _] mX3_claim dX3_disputed_19 lX3_171 wX3_claim kC3 hu rfl (by first | rfl | assumption) rfl rfl rfl (qX3_claim hu hr hg _ hx _ hs) (by decide) (fun v1 e1 => ?_)
  have hu1 := e1.wd hu
  have E1 := e1
  have hr1 := hr.eqX hg E1
  refine kv_istore_n (ls2 := [_, _, _, _, _, _]) dX3_disputed_22 rfl rfl rfl rfl ?_
  refine kv_aload_n dX3_disputed_23 rfl ?_
  refine kw_gR dX3_disputed_24 fX3_18 hu1 (by first | rfl | assumption) rfl rfl (by first | rfl | assumption) ?_
  refine kw_gR dX3_disputed_27 fX3_114 hu1 (by first | rfl | assumption) rfl rfl (by first | rfl | assumption) ?_
  refine kv_iconst dX3_disputed_30 5 ki_5 ?_
  refine kw_il dX3_disputed_31 hu1 (by first | rfl | assumption) (_) (show (5 : Int32) = nI 5 from rfl) (by omega) rfl ?_
  rw [hr1.rate 5 (by decide)]
  refine kv_istore (ls2 := [_, _, _, _, _, _]) dX3_disputed_32 rfl rfl rfl rfl ?_
  refine kv_aload_n dX3_disputed_34 rfl ?_
  refine kv_iconst dX3_disputed_35 2 ki_2 ?_
  refine kv_aload_n dX3_disputed_36 rfl ?_
  refine kw_gI dX3_disputed_37 fX3_68 hu1 (by first | rfl | assumption) rfl rfl ?_
  rw [hr1.day hx]
  refine kw_Vi [_, _] mX3_inForce dX3_disputed_40 lX3_71 wX3_inForce kC3 hu1 rfl (by first | rfl | assumption) rfl rfl rfl (qX3_inForce hu1 hr1 hg _ _) (by decide) ?_
  refine kv_istore (ls2 := [_, _, _, _, _, _]) dX3_disputed_43 rfl rfl rfl rfl ?_
  refine kv_iload dX3_disputed_45 rfl ?_
  refine kv_if_ge dX3_disputed_47 67 (by decide) (fun h1 => ?_) (fun h1 => ?_)
  · have hT := kInF_ge (by omega) h1
    have hc := h1
    refine kv_aload_n dX3_disputed_67 rfl ?_
    refine kv_aload_n dX3_disputed_68 rfl ?_
    refine kw_gI dX3_disputed_69 fX3_175 hu1 (by first | rfl | assumption) rfl rfl ?_
    rw [hr1.ent he 2 (by decide)]
    refine kv_iload_n dX3_disputed_72 rfl ?_
    refine kv_iload dX3_disputed_73 rfl ?_
    refine kv_iconst dX3_disputed_75 0 ki_0 ?_
    refine kw_VQ [_, _, _, _] mX3_name dX3_disputed_76 lX3_82 wX3_name kC3 hu1 rfl (by first | rfl | assumption) rfl rfl rfl (qX3_name hu1 _ _ _ _) (by decide) (fun _ v2 q2 => ?_)
    obtain ⟨rfl, e2, na, nb, nc, nd⟩ := q2
    have hu2 := e2.wd hu1
    have E2 := E1.tr e2
    have hr2 := hr.eqX hg E2
    refine kv_aload_n dX3_disputed_79 rfl ?_
    refine kv_iload dX3_disputed_80 rfl ?_
    rw [hT.2]
    refine kw_Vpi [_] mX3_follow dX3_disputed_82 lX3_86 wX3_follow kC3 hu2 rfl (by first | rfl | assumption) rfl rfl rfl (qX3_follow hu2 hr2 hg _ hT.1 na nb nc nd) (by decide) (fun v3 e3 => ?_)
    have hu3 := e3.wd hu2
    have E3 := E2.tr e3
    have hr3 := hr.eqX hg E3
    refine kv_if_eq dX3_disputed_85 92 (by decide) (fun h2 => ?_) (fun h2 => ?_)
    · refine kv_iconst dX3_disputed_92 0 ki_0 ?_
      exact kv_zret dX3_disputed_93 rfl kv_z0 ⟨by first | rw [if_pos (show kDisp g e by unfold kDisp; first | (rw [if_pos hc]; assumption) | (rw [if_neg hc]; assumption))] | rw [if_neg (show ¬ kDisp g e by unfold kDisp; first | (rw [if_pos hc]; exact fun q => q ‹_›) | (rw [if_neg hc]; exact fun q => q ‹_›))], E3⟩
    · refine kv_iconst dX3_disputed_88 1 ki_1 ?_
      refine kv_goto dX3_disputed_89 93 (by decide) ?_
      exact kv_zret dX3_disputed_93 rfl kv_z1 ⟨by first | rw [if_pos (show kDisp g e by unfold kDisp; first | (rw [if_pos hc]; assumption) | (rw [if_neg hc]; assumption))] | rw [if_neg (show ¬ kDisp g e by unfold kDisp; first | (rw [if_pos hc]; exact fun q => q ‹_›) | (rw [if_neg hc]; exact fun q => q ‹_›))], E3⟩
  · have hc := h1
    refine kv_aload_n dX3_disputed_50 rfl ?_
    refine kw_gI dX3_disputed_51 fX3_175 hu1 (by first | rfl | assumption) rfl rfl ?_
    rw [hr1.ent he 2 (by decide)]
    refine kv_iload_n dX3_disputed_54 rfl ?_
    refine kv_iload dX3_disputed_55 rfl ?_
    refine kv_iadd dX3_disputed_57 ?_
    refine kv_icmp_le dX3_disputed_58 65 (by decide) (fun h3 => ?_) (fun h3 => ?_)
    · refine kv_iconst dX3_disputed_65 0 ki_0 ?_
      exact kv_zret dX3_disputed_66 rfl kv_z0 ⟨by first | rw [if_pos (show kDisp g e by unfold kDisp; first | (rw [if_pos hc]; assumption) | (rw [if_neg hc]; assumption))] | rw [if_neg (show ¬ kDisp g e by unfold kDisp; first | (rw [if_pos hc]; exact fun q => q ‹_›) | (rw [if_neg hc]; exact fun q => q ‹_›))], E1⟩
    · refine kv_iconst dX3_disputed_61 1 ki_1 ?_
      refine kv_goto dX3_disputed_62 66 (by decide) ?_
      exact kv_zret dX3_disputed_66 rfl kv_z1 ⟨by first | rw [if_pos (show kDisp g e by unfold kDisp; first | (rw [if_pos hc]; assumption) | (rw [if_neg hc]; assumption))] | rw [if_neg (show ¬ kDisp g e by unfold kDisp; first | (rw [if_pos hc]; exact fun q => q ‹_›) | (rw [if_neg hc]; exact fun q => q ‹_›))], E1⟩

set_option maxRecDepth 20000 in
set_option maxHeartbeats 4000000 in
theorem qX3_kind {w : KW} {l : Launch} {u : KMem} (hu : kWd u) {g : Nat → Int32} (hr : kRS 1 g u) (hg : kGI g) (e : Nat) (he : e < kN g 4) : KC w l mX3_kind 6 0 0 [.ref 385, .int (nI e)] u (kp kSX u (some (.int (kKind g e)))) := by
  have hx20 := (hg.cnt (k := 2) rfl).2
  have hc30 := (hg.cnt (k := 0) rfl).2
  have ht10 := (hg.cnt (k := 3) rfl).2
  have he40 := (hg.cnt (k := 4) rfl).2
  have hs16 := hg.cnt (k := 1) rfl
  have hE := hg.ent he
  have hx := hE.2.1
  have hs := hE.2.2.2
  have ke := ks_entry e (by omega)
  have ke1 := ke.1
  have ke2 := ke.2
  have kx := ks_crash (kN g (1128 + 5 * e + 0)) (by omega)
  have kx1 := kx.1
  have kx2 := kx.2.1
  have kx3 := kx.2.2.1
  have kx4 := kx.2.2.2.1
  have kx5 := kx.2.2.2.2.1
  have kx6 := kx.2.2.2.2.2
  have hfe := kFst_le g e
  refine KC.of (ls := [_, _, _]) rfl rfl (Nat.le_of_ble_eq_true rfl) ?_
  refine kv_aload_n dX3_kind_0 rfl ?_
  refine kw_gR dX3_kind_1 fX3_18 hu (by first | rfl | assumption) rfl rfl (by first | rfl | assumption) ?_
  refine kw_gR dX3_kind_4 fX3_178 hu (by first | rfl | assumption) rfl rfl (by first | rfl | assumption) ?_
  refine kv_iload_n dX3_kind_7 rfl ?_
  refine kw_al (t := 3) (n := 40) dX3_kind_8 hu rfl rfl (e) rfl (by omega) rfl (by first | rfl | assumption) ?_
  refine kv_astore_n (ls2 := [_, _, _]) dX3_kind_9 rfl rfl rfl rfl ?_
  refine kv_aload_n dX3_kind_10 rfl ?_
  refine kw_gI dX3_kind_11 fX3_182 hu (by first | rfl | assumption) rfl rfl ?_
  rw [hr.efst he]
  refine kv_iload_n dX3_kind_14 rfl ?_
  refine kv_icmp_eq dX3_kind_15 20 (by decide) (fun h1 => ?_) (fun h1 => ?_)
  · have hf : ¬ ¬ e ≤ kFst g e := fun q => q (Nat.le_of_eq ((kn_eq (by omega) (by omega)).mp h1).symm)
    refine kv_aload_n dX3_kind_20 rfl ?_
    refine kv_aload_n dX3_kind_21 rfl ?_
    refine kw_Vpi [_] mX3_disputed dX3_kind_22 lX3_185 wX3_disputed kC3 hu rfl (by first | rfl | assumption) rfl rfl rfl (qX3_disputed hu hr hg e he) (by decide) (fun v1 e1 => ?_)
    have hu1 := e1.wd hu
    have E1 := e1
    have hr1 := hr.eqX hg E1
    refine kw_beq dX3_kind_25 30 (by decide) (fun h2 => ?_) (fun h2 => ?_)
    · refine kv_aload_n dX3_kind_30 rfl ?_
      refine kv_aload_n dX3_kind_31 rfl ?_
      refine kw_gR dX3_kind_32 fX3_18 hu1 (by first | rfl | assumption) rfl rfl (by first | rfl | assumption) ?_
      refine kw_gR dX3_kind_35 fX3_159 hu1 (by first | rfl | assumption) rfl rfl (by first | rfl | assumption) ?_
      refine kv_aload_n dX3_kind_38 rfl ?_
      refine kw_gI dX3_kind_39 fX3_163 hu1 (by first | rfl | assumption) rfl rfl ?_
      rw [hr1.ent he 0 (by decide), hE.1]
      refine kw_al (t := 1) (n := 20) dX3_kind_42 hu1 rfl rfl ((kN g (1128 + 5 * e + 0))) rfl (by omega) rfl (by first | rfl | assumption) ?_
      refine kv_aload_n dX3_kind_43 rfl ?_
      refine kw_gI dX3_kind_44 fX3_168 hu1 (by first | rfl | assumption) rfl rfl ?_
      rw [hr1.ent he 1 (by decide), hE.2.2.1]
      refine kw_VQ [_, _] mX3_appraise dX3_kind_47 lX3_152 wX3_appraise kC3 hu1 rfl (by first | rfl | assumption) rfl rfl rfl (qX3_appraise hu1 hr1 hg _ hx _ hs) (by decide) (fun _ v2 q2 => ?_)
      obtain ⟨rfl, e5, ap⟩ := q2
      have e2 := kS5_X e5
      have hu2 := e2.wd hu1
      have E2 := E1.tr e2
      have hr2 := hr.eqX hg E2
      refine kv_aload_n dX3_kind_50 rfl ?_
      refine kw_gI dX3_kind_51 fX3_136 hu2 (by first | rfl | assumption) rfl rfl ?_
      rw [ap.2.1]
      refine kw_beq dX3_kind_54 61 (by decide) (fun h3 => ?_) (fun h3 => ?_)
      · refine kv_iconst dX3_kind_61 1 ki_1 ?_
        exact kv_iret dX3_kind_62 rfl ⟨by unfold kKind; first | (rw [if_pos hf]; done) | (rw [if_neg hf, if_pos ‹kDisp _ _›]; done) | (rw [if_neg hf, if_neg ‹¬ kDisp _ _›, if_pos ‹kTot _ _ _›]; done) | (rw [if_neg hf, if_neg ‹¬ kDisp _ _›, if_neg ‹¬ kTot _ _ _›]; done), E2⟩
      · refine kv_iconst dX3_kind_57 2 ki_2 ?_
        refine kv_goto dX3_kind_58 62 (by decide) ?_
        exact kv_iret dX3_kind_62 rfl ⟨by unfold kKind; first | (rw [if_pos hf]; done) | (rw [if_neg hf, if_pos ‹kDisp _ _›]; done) | (rw [if_neg hf, if_neg ‹¬ kDisp _ _›, if_pos ‹kTot _ _ _›]; done) | (rw [if_neg hf, if_neg ‹¬ kDisp _ _›, if_neg ‹¬ kTot _ _ _›]; done), E2⟩
    · refine kv_iconst dX3_kind_28 3 ki_3 ?_
      exact kv_iret dX3_kind_29 rfl ⟨by unfold kKind; first | (rw [if_pos hf]; done) | (rw [if_neg hf, if_pos ‹kDisp _ _›]; done) | (rw [if_neg hf, if_neg ‹¬ kDisp _ _›, if_pos ‹kTot _ _ _›]; done) | (rw [if_neg hf, if_neg ‹¬ kDisp _ _›, if_neg ‹¬ kTot _ _ _›]; done), E1⟩
  · have hf : ¬ e ≤ kFst g e := fun q => h1 ((kn_eq (by omega) (by omega)).mpr (by omega))
    refine kv_iconst dX3_kind_18 4 ki_4 ?_
    exact kv_iret dX3_kind_19 rfl ⟨by unfold kKind; first | (rw [if_pos hf]; done) | (rw [if_neg hf, if_pos ‹kDisp _ _›]; done) | (rw [if_neg hf, if_neg ‹¬ kDisp _ _›, if_pos ‹kTot _ _ _›]; done) | (rw [if_neg hf, if_neg ‹¬ kDisp _ _›, if_neg ‹¬ kTot _ _ _›]; done), kEq.rf⟩

