/-! THE MODEL'S READER: one -/
theorem kpPr_5 {B : Nat → Int32} {n use D op : Nat} {s : KPs} : kpPr B n use (D + 1) 5 op s = kpOn B n use (kpPr B n use D) op s := if_neg (by omega)
theorem kpEx_y {B : Nat → Int32} {n op : Nat} {c : Int32} {s : KPs} (h : kpWo B n s.1 = c) (hfv : op < 5) : kpEx B n c op s = .ok (kpNx B n s.1, s.2) := if_pos ⟨h, hfv⟩
theorem kpEx_n {B : Nat → Int32} {n op : Nat} {c : Int32} {s : KPs} (h : ¬ (kpWo B n s.1 = c ∧ op < 5)) : kpEx B n c op s = .error s.1 := if_neg h
set_option maxRecDepth 20000 in
set_option maxHeartbeats 4000000 in
theorem qX12_one_max {w : KW} {l : Launch} {u : KMem} {g : Nat → Int32} {use : Nat} (mx : kpMx u g use) {D op : Nat} (hop : op ≤ 5) (hT : op < 5 → ∀ (r : KPt) (v : KMem), kpMr u g (op + 1) r v → KC w l mX12_text (D + 10) 0 0 [.ref 413] v (fun q z => q = none ∧ kpMr u g (op + 1) (kpBd r (kpPr (kpB g) (kN g 5) use D 0 (op + 1))) z)) (hO : op < 5 → ∀ (s : KPs) (v : KMem), kpMs u g (op + 1) s v → KC w l mX12_one (D + 10) 0 0 [.ref 413] v (fun q z => q = none ∧ kpMr u g (op + 1) (kpPr (kpB g) (kN g 5) use D 5 (op + 1) s) z)) {v : KMem} {s : KPs} (hX : kpMs u g op s v) (hM : kpAt g s 3) : KC w l mX12_one (D + 11) 0 0 [.ref 413] v (fun q z => q = none ∧ kpMr u g op (kpPr (kpB g) (kN g 5) use (D + 1) 5 op s) z) := by
  have hu := mx.wd
  have eg := mx.eg
  have hg := mx.hg
  have hw5 := hg.cnt (k := 5) rfl
  obtain ⟨E, g10, g6, g7, g9, gc, gs, hp, hsl⟩ := id hX
  have mv := mx.of E
  have hv := mv.wd
  have egv := mv.eg
  have hte := kpTe_le (B := kpB g) hp
  have hw3 := (kpAt_3 (g := g) (s := s) (i := 3) (a := 109) (b := 97) (c := 120) (by decide +kernel) (by decide +kernel) (by decide +kernel) (by decide +kernel)).mp hM
  obtain ⟨hlt, hwo3⟩ := kpW3_lr hw3
  have hS : kpPr (kpB g) (kN g 5) use (D + 1) 5 op s = kpMM (kpB g) (kN g 5) (kpPr (kpB g) (kN g 5) use D) op 20009 s := kpPr_5.trans ((if_neg (by rw [hwo3]; decide)).trans ((if_pos hwo3).trans (if_pos hw3)))
  refine KC.of (ls := [_, _, _]) rfl rfl (Nat.le_of_ble_eq_true rfl) ?_
  refine kv_aload_n dX12_one_0 rfl ?_
  refine kv_ldcSW (i := 3) dX12_one_1 rfl rfl rfl ?_
  refine kw_Vi [_] mX12_isAt dX12_one_4 lX12_207 wX12_isAt kC12 hv rfl (by first | rfl | assumption) rfl rfl rfl (qX12_isAt_y mx hX (i := 3) (by decide) hM) (by omega) ?_
  refine kv_istore_n (ls2 := [_, _, _]) dX12_one_7 rfl rfl rfl rfl ?_
  refine kv_iload_n dX12_one_8 rfl ?_
  refine kv_if_ne dX12_one_9 22 (by decide) (fun h1 => ?_) (fun h1 => ?_)
  · refine kv_aload_n dX12_one_22 rfl ?_
    refine kw_VQ [] mX12_goOn dX12_one_23 lX12_211 wX12_goOn kC12 hv rfl (by first | rfl | assumption) rfl rfl rfl (qX12_goOn mv (kpTe (kpB g) (kN g 5) s.1) hte.2 g7) (by omega) (fun _ v1 q1 => ?_)
    obtain ⟨rfl, es, z6, z7⟩ := q1
    have x1 : kpMs u g op (kpNx (kpB g) (kN g 5) s.1, s.2) v1 := kpMs.next hlt E g10 g9 gc gs (by omega) es z6 z7
    have hv1 := x1.1.wd mx.wd
    refine kv_aload_n dX12_one_26 rfl ?_
    refine kv_aload_n dX12_one_27 rfl ?_
    refine kv_ldcSW (i := 5) dX12_one_28 rfl rfl rfl ?_
    by_cases hP : kpAt g (kpNx (kpB g) (kN g 5) s.1, s.2) 5
    · have hlt1 : ((kpNx (kpB g) (kN g 5) s.1, s.2) : KPs).1 < kN g 5 := ((kpWo_is (by unfold kpSn; decide)).mp ((kpAt_1 (g := g) (s := (kpNx (kpB g) (kN g 5) s.1, s.2)) (i := 5) (c := 40) (by decide +kernel) (by decide +kernel) (by unfold kpSn; decide)).mp hP)).1
      refine kw_Vi [_] mX12_isAt dX12_one_31 lX12_207 wX12_isAt kC12 hv1 rfl (by first | rfl | assumption) rfl rfl rfl (qX12_isAt_y mx x1 (i := 5) (by decide) hP) (by omega) ?_
      refine kv_if_ne dX12_one_34 41 (by decide) (fun h2 => ?_) (fun h2 => ?_)
      · refine kv_iconst dX12_one_41 0 ki_0 ?_
        refine kw_pZ dX12_one_42 fX12_196 hv1 (by first | rfl | assumption) rfl rfl (by first | exact Or.inl rfl | exact Or.inr rfl | assumption) ?_
        have x2 := x1.w0
        have hv2 := x2.1.wd mx.wd
        refine kv_aload_n dX12_one_45 rfl ?_
        by_cases hfv : op < 5
        · have hwo : kpWo (kpB g) (kN g 5) ((kpNx (kpB g) (kN g 5) s.1, s.2) : KPs).1 = 40 := (kpAt_1 (g := g) (s := (kpNx (kpB g) (kN g 5) s.1, s.2)) (i := 5) (c := 40) (by decide +kernel) (by decide +kernel) (by unfold kpSn; decide)).mp hP
          have hEx : kpEx (kpB g) (kN g 5) 40 op (kpNx (kpB g) (kN g 5) s.1, s.2) = .ok (kpNx (kpB g) (kN g 5) ((kpNx (kpB g) (kN g 5) s.1, s.2) : KPs).1, ((kpNx (kpB g) (kN g 5) s.1, s.2) : KPs).2) := kpEx_y hwo hfv
          have hS2 : kpPr (kpB g) (kN g 5) use (D + 1) 5 op s = kpBd (kpBd (kpBd (kpBd (kpBd (.ok (kpNx (kpB g) (kN g 5) ((kpNx (kpB g) (kN g 5) s.1, s.2) : KPs).1, ((kpNx (kpB g) (kN g 5) s.1, s.2) : KPs).2)) (kpPr (kpB g) (kN g 5) use D 0 (op + 1))) (kpEx (kpB g) (kN g 5) 44 0)) (kpPr (kpB g) (kN g 5) use D 0 (op + 1))) (kpEx (kpB g) (kN g 5) 41 0)) (kpPu 20009) := by
            rw [hS]
            unfold kpMM
            rw [hEx]
          refine kw_VQ [] mX12_opens dX12_one_46 lX12_264 wX12_opens kC12 hv2 rfl (by first | rfl | assumption) rfl rfl rfl (qX12_opens_y mx x2 hlt1 hfv) (by omega) (fun _ v3 q3 => ?_)
          obtain ⟨rfl, x3⟩ := q3
          have hv3 := x3.1.wd mx.wd
          have y3 : kpMr u g (op + 1) (.ok (kpNx (kpB g) (kN g 5) ((kpNx (kpB g) (kN g 5) s.1, s.2) : KPs).1, ((kpNx (kpB g) (kN g 5) s.1, s.2) : KPs).2)) v3 := x3
          refine kv_if_eq dX12_one_49 217 (by decide) (fun h3 => ?_) (fun h3 => ?_)
          · exact absurd h3 (by decide)
          · refine kv_aload_n dX12_one_52 rfl ?_
            refine kw_VQ [] mX12_text dX12_one_53 lX12_268 wX12_text kC12 hv3 rfl (by first | rfl | assumption) rfl rfl rfl (hT hfv _ _ y3) (by omega) (fun _ v4 q4 => ?_)
            obtain ⟨rfl, x4⟩ := q4
            have hv4 := x4.e.wd mx.wd
            refine kv_aload_n dX12_one_56 rfl ?_
            refine kv_ldcSW (i := 6) dX12_one_57 rfl rfl rfl ?_
            refine kw_VQ [_] mX12_must dX12_one_60 lX12_273 wX12_must kC12 hv4 rfl (by first | rfl | assumption) rfl rfl rfl (qX12_must mx x4 (i := 6) (by decide) (c := 44) (by decide +kernel) (by decide +kernel) (by unfold kpSn; decide)) (by omega) (fun _ v5 q5 => ?_)
            obtain ⟨rfl, x5⟩ := q5
            have hv5 := x5.e.wd mx.wd
            refine kv_aload_n dX12_one_63 rfl ?_
            refine kw_VQ [] mX12_text dX12_one_64 lX12_268 wX12_text kC12 hv5 rfl (by first | rfl | assumption) rfl rfl rfl (hT hfv _ _ x5) (by omega) (fun _ v6 q6 => ?_)
            obtain ⟨rfl, x6⟩ := q6
            have hv6 := x6.e.wd mx.wd
            refine kv_aload_n dX12_one_67 rfl ?_
            refine kv_ldcSW (i := 7) dX12_one_68 rfl rfl rfl ?_
            refine kw_VQ [_] mX12_must dX12_one_71 lX12_273 wX12_must kC12 hv6 rfl (by first | rfl | assumption) rfl rfl rfl (qX12_must mx x6 (i := 7) (by decide) (c := 41) (by decide +kernel) (by decide +kernel) (by unfold kpSn; decide)) (by omega) (fun _ v7 q7 => ?_)
            obtain ⟨rfl, x7⟩ := q7
            have hv7 := x7.e.wd mx.wd
            refine kv_aload_n dX12_one_74 rfl ?_
            refine kv_iload_n dX12_one_75 rfl ?_
            refine kv_if_eq dX12_one_76 85 (by decide) (fun h4 => ?_) (fun h4 => ?_)
            · exact absurd h4 (by decide)
            · refine kv_sipush dX12_one_79 20009 kz_20009 ?_
              refine kv_goto dX12_one_82 88 (by decide) ?_
              refine kw_VQ [_] mX12_codes dX12_one_88 lX12_225 wX12_codes kC12 hv7 rfl (by first | rfl | assumption) rfl rfl rfl (qX12_codes mx x7 20009 (fun s5 q => kpMM_sl (B := kpB g) (op := op) (R := kpPr (kpB g) (kN g 5) use D) (fun o s t => kpPr_gd (fun i hi => mx.hg.2.2.2.2.2.2.2.2 i hi) D 0 o s t) hlt hsl (by rw [hEx]; exact q))) (by omega) (fun _ v8 q8 => ?_)
              obtain ⟨rfl, x8⟩ := q8
              have hv8 := x8.e.wd mx.wd
              refine kv_aload_n dX12_one_91 rfl ?_
              refine kv_dup dX12_one_92 rfl ?_
              refine kw_gI dX12_one_93 fX12_257 hv8 (by first | rfl | assumption) rfl rfl ?_
              refine kv_iconst dX12_one_96 1 ki_1 ?_
              refine kv_isub dX12_one_97 ?_
              refine kw_pI dX12_one_98 fX12_257 hv8 (by first | rfl | assumption) rfl rfl ?_
              refine kv_goto dX12_one_101 217 (by decide) ?_
              exact kv_vret dX12_one_217 rfl (by rw [hS2]; exact ⟨rfl, x8.dec⟩)
        · have hS2 : kpPr (kpB g) (kN g 5) use (D + 1) 5 op s = .error (kpNx (kpB g) (kN g 5) s.1) := by
            rw [hS]
            unfold kpMM
            rw [kpEx_n (s := (kpNx (kpB g) (kN g 5) s.1, s.2)) (fun q => hfv q.2)]
            rfl
          refine kw_VQ [] mX12_opens dX12_one_46 lX12_264 wX12_opens kC12 hv2 rfl (by first | rfl | assumption) rfl rfl rfl (qX12_opens_n mx x2 hfv hop) (by omega) (fun _ v3 q3 => ?_)
          obtain ⟨rfl, x3⟩ := q3
          have hv3 := x3.1.wd mx.wd
          refine kv_if_eq dX12_one_49 217 (by decide) (fun h5 => ?_) (fun h5 => ?_)
          · exact kv_vret dX12_one_217 rfl (by rw [hS2]; exact ⟨rfl, x3⟩)
          · exact absurd h5 (by decide)
      · exact absurd h2 (by decide)
    · have hS2 : kpPr (kpB g) (kN g 5) use (D + 1) 5 op s = .error (kpNx (kpB g) (kN g 5) s.1) := by
        rw [hS]
        unfold kpMM
        rw [kpEx_n (s := (kpNx (kpB g) (kN g 5) s.1, s.2)) (fun q => hP ((kpAt_1 (g := g) (s := (kpNx (kpB g) (kN g 5) s.1, s.2)) (i := 5) (c := 40) (by decide +kernel) (by decide +kernel) (by unfold kpSn; decide)).mpr q.1))]
        rfl
      refine kw_Vi [_] mX12_isAt dX12_one_31 lX12_207 wX12_isAt kC12 hv1 rfl (by first | rfl | assumption) rfl rfl rfl (qX12_isAt_n mx x1 (i := 5) (by decide) hP) (by omega) ?_
      refine kv_if_ne dX12_one_34 41 (by decide) (fun h6 => ?_) (fun h6 => ?_)
      · exact absurd h6 (by decide)
      · refine kv_iconst dX12_one_37 1 ki_1 ?_
        refine kv_goto dX12_one_38 42 (by decide) ?_
        refine kw_pZ dX12_one_42 fX12_196 hv1 (by first | rfl | assumption) rfl rfl (by first | exact Or.inl rfl | exact Or.inr rfl | assumption) ?_
        have x2 := x1.w1 hg
        have hv2 := x2.1.wd mx.wd
        refine kv_aload_n dX12_one_45 rfl ?_
        refine kw_VQ [] mX12_opens dX12_one_46 lX12_264 wX12_opens kC12 hv2 rfl (by first | rfl | assumption) rfl rfl rfl (qX12_opens_e mx x2) (by omega) (fun _ v3 q3 => ?_)
        obtain ⟨rfl, x3⟩ := q3
        have hv3 := x3.1.wd mx.wd
        refine kv_if_eq dX12_one_49 217 (by decide) (fun h7 => ?_) (fun h7 => ?_)
        · exact kv_vret dX12_one_217 rfl (by rw [hS2]; exact ⟨rfl, x3⟩)
        · exact absurd h7 (by decide)
  · exact absurd h1 (by decide)

set_option maxRecDepth 20000 in
set_option maxHeartbeats 4000000 in
theorem qX12_one_min {w : KW} {l : Launch} {u : KMem} {g : Nat → Int32} {use : Nat} (mx : kpMx u g use) {D op : Nat} (hop : op ≤ 5) (hT : op < 5 → ∀ (r : KPt) (v : KMem), kpMr u g (op + 1) r v → KC w l mX12_text (D + 10) 0 0 [.ref 413] v (fun q z => q = none ∧ kpMr u g (op + 1) (kpBd r (kpPr (kpB g) (kN g 5) use D 0 (op + 1))) z)) (hO : op < 5 → ∀ (s : KPs) (v : KMem), kpMs u g (op + 1) s v → KC w l mX12_one (D + 10) 0 0 [.ref 413] v (fun q z => q = none ∧ kpMr u g (op + 1) (kpPr (kpB g) (kN g 5) use D 5 (op + 1) s) z)) {v : KMem} {s : KPs} (hX : kpMs u g op s v) (hM1 : ¬ kpAt g s 3) (hM : kpAt g s 4) : KC w l mX12_one (D + 11) 0 0 [.ref 413] v (fun q z => q = none ∧ kpMr u g op (kpPr (kpB g) (kN g 5) use (D + 1) 5 op s) z) := by
  have hu := mx.wd
  have eg := mx.eg
  have hg := mx.hg
  have hw5 := hg.cnt (k := 5) rfl
  obtain ⟨E, g10, g6, g7, g9, gc, gs, hp, hsl⟩ := id hX
  have mv := mx.of E
  have hv := mv.wd
  have egv := mv.eg
  have hte := kpTe_le (B := kpB g) hp
  have hw3 := (kpAt_3 (g := g) (s := s) (i := 4) (a := 109) (b := 105) (c := 110) (by decide +kernel) (by decide +kernel) (by decide +kernel) (by decide +kernel)).mp hM
  obtain ⟨hlt, hwo3⟩ := kpW3_lr hw3
  have hS : kpPr (kpB g) (kN g 5) use (D + 1) 5 op s = kpMM (kpB g) (kN g 5) (kpPr (kpB g) (kN g 5) use D) op 20010 s := kpPr_5.trans ((if_neg (by rw [hwo3]; decide)).trans ((if_pos hwo3).trans ((if_neg (fun q => hM1 ((kpAt_3 (g := g) (s := s) (i := 3) (a := 109) (b := 97) (c := 120) (by decide +kernel) (by decide +kernel) (by decide +kernel) (by decide +kernel)).mpr q))).trans (if_pos hw3))))
  refine KC.of (ls := [_, _, _]) rfl rfl (Nat.le_of_ble_eq_true rfl) ?_
  refine kv_aload_n dX12_one_0 rfl ?_
  refine kv_ldcSW (i := 3) dX12_one_1 rfl rfl rfl ?_
  refine kw_Vi [_] mX12_isAt dX12_one_4 lX12_207 wX12_isAt kC12 hv rfl (by first | rfl | assumption) rfl rfl rfl (qX12_isAt_n mx hX (i := 3) (by decide) hM1) (by omega) ?_
  refine kv_istore_n (ls2 := [_, _, _]) dX12_one_7 rfl rfl rfl rfl ?_
  refine kv_iload_n dX12_one_8 rfl ?_
  refine kv_if_ne dX12_one_9 22 (by decide) (fun h1 => ?_) (fun h1 => ?_)
  · exact absurd h1 (by decide)
  · refine kv_aload_n dX12_one_12 rfl ?_
    refine kv_ldcSW (i := 4) dX12_one_13 rfl rfl rfl ?_
    refine kw_Vi [_] mX12_isAt dX12_one_16 lX12_207 wX12_isAt kC12 hv rfl (by first | rfl | assumption) rfl rfl rfl (qX12_isAt_y mx hX (i := 4) (by decide) hM) (by omega) ?_
    refine kv_if_eq dX12_one_19 104 (by decide) (fun h2 => ?_) (fun h2 => ?_)
    · exact absurd h2 (by decide)
    · refine kv_aload_n dX12_one_22 rfl ?_
      refine kw_VQ [] mX12_goOn dX12_one_23 lX12_211 wX12_goOn kC12 hv rfl (by first | rfl | assumption) rfl rfl rfl (qX12_goOn mv (kpTe (kpB g) (kN g 5) s.1) hte.2 g7) (by omega) (fun _ v1 q1 => ?_)
      obtain ⟨rfl, es, z6, z7⟩ := q1
      have x1 : kpMs u g op (kpNx (kpB g) (kN g 5) s.1, s.2) v1 := kpMs.next hlt E g10 g9 gc gs (by omega) es z6 z7
      have hv1 := x1.1.wd mx.wd
      refine kv_aload_n dX12_one_26 rfl ?_
      refine kv_aload_n dX12_one_27 rfl ?_
      refine kv_ldcSW (i := 5) dX12_one_28 rfl rfl rfl ?_
      by_cases hP : kpAt g (kpNx (kpB g) (kN g 5) s.1, s.2) 5
      · have hlt1 : ((kpNx (kpB g) (kN g 5) s.1, s.2) : KPs).1 < kN g 5 := ((kpWo_is (by unfold kpSn; decide)).mp ((kpAt_1 (g := g) (s := (kpNx (kpB g) (kN g 5) s.1, s.2)) (i := 5) (c := 40) (by decide +kernel) (by decide +kernel) (by unfold kpSn; decide)).mp hP)).1
        refine kw_Vi [_] mX12_isAt dX12_one_31 lX12_207 wX12_isAt kC12 hv1 rfl (by first | rfl | assumption) rfl rfl rfl (qX12_isAt_y mx x1 (i := 5) (by decide) hP) (by omega) ?_
        refine kv_if_ne dX12_one_34 41 (by decide) (fun h3 => ?_) (fun h3 => ?_)
        · refine kv_iconst dX12_one_41 0 ki_0 ?_
          refine kw_pZ dX12_one_42 fX12_196 hv1 (by first | rfl | assumption) rfl rfl (by first | exact Or.inl rfl | exact Or.inr rfl | assumption) ?_
          have x2 := x1.w0
          have hv2 := x2.1.wd mx.wd
          refine kv_aload_n dX12_one_45 rfl ?_
          by_cases hfv : op < 5
          · have hwo : kpWo (kpB g) (kN g 5) ((kpNx (kpB g) (kN g 5) s.1, s.2) : KPs).1 = 40 := (kpAt_1 (g := g) (s := (kpNx (kpB g) (kN g 5) s.1, s.2)) (i := 5) (c := 40) (by decide +kernel) (by decide +kernel) (by unfold kpSn; decide)).mp hP
            have hEx : kpEx (kpB g) (kN g 5) 40 op (kpNx (kpB g) (kN g 5) s.1, s.2) = .ok (kpNx (kpB g) (kN g 5) ((kpNx (kpB g) (kN g 5) s.1, s.2) : KPs).1, ((kpNx (kpB g) (kN g 5) s.1, s.2) : KPs).2) := kpEx_y hwo hfv
            have hS2 : kpPr (kpB g) (kN g 5) use (D + 1) 5 op s = kpBd (kpBd (kpBd (kpBd (kpBd (.ok (kpNx (kpB g) (kN g 5) ((kpNx (kpB g) (kN g 5) s.1, s.2) : KPs).1, ((kpNx (kpB g) (kN g 5) s.1, s.2) : KPs).2)) (kpPr (kpB g) (kN g 5) use D 0 (op + 1))) (kpEx (kpB g) (kN g 5) 44 0)) (kpPr (kpB g) (kN g 5) use D 0 (op + 1))) (kpEx (kpB g) (kN g 5) 41 0)) (kpPu 20010) := by
              rw [hS]
              unfold kpMM
              rw [hEx]
            refine kw_VQ [] mX12_opens dX12_one_46 lX12_264 wX12_opens kC12 hv2 rfl (by first | rfl | assumption) rfl rfl rfl (qX12_opens_y mx x2 hlt1 hfv) (by omega) (fun _ v3 q3 => ?_)
            obtain ⟨rfl, x3⟩ := q3
            have hv3 := x3.1.wd mx.wd
            have y3 : kpMr u g (op + 1) (.ok (kpNx (kpB g) (kN g 5) ((kpNx (kpB g) (kN g 5) s.1, s.2) : KPs).1, ((kpNx (kpB g) (kN g 5) s.1, s.2) : KPs).2)) v3 := x3
            refine kv_if_eq dX12_one_49 217 (by decide) (fun h4 => ?_) (fun h4 => ?_)
            · exact absurd h4 (by decide)
            · refine kv_aload_n dX12_one_52 rfl ?_
              refine kw_VQ [] mX12_text dX12_one_53 lX12_268 wX12_text kC12 hv3 rfl (by first | rfl | assumption) rfl rfl rfl (hT hfv _ _ y3) (by omega) (fun _ v4 q4 => ?_)
              obtain ⟨rfl, x4⟩ := q4
              have hv4 := x4.e.wd mx.wd
              refine kv_aload_n dX12_one_56 rfl ?_
              refine kv_ldcSW (i := 6) dX12_one_57 rfl rfl rfl ?_
              refine kw_VQ [_] mX12_must dX12_one_60 lX12_273 wX12_must kC12 hv4 rfl (by first | rfl | assumption) rfl rfl rfl (qX12_must mx x4 (i := 6) (by decide) (c := 44) (by decide +kernel) (by decide +kernel) (by unfold kpSn; decide)) (by omega) (fun _ v5 q5 => ?_)
              obtain ⟨rfl, x5⟩ := q5
              have hv5 := x5.e.wd mx.wd
              refine kv_aload_n dX12_one_63 rfl ?_
              refine kw_VQ [] mX12_text dX12_one_64 lX12_268 wX12_text kC12 hv5 rfl (by first | rfl | assumption) rfl rfl rfl (hT hfv _ _ x5) (by omega) (fun _ v6 q6 => ?_)
              obtain ⟨rfl, x6⟩ := q6
              have hv6 := x6.e.wd mx.wd
              refine kv_aload_n dX12_one_67 rfl ?_
              refine kv_ldcSW (i := 7) dX12_one_68 rfl rfl rfl ?_
              refine kw_VQ [_] mX12_must dX12_one_71 lX12_273 wX12_must kC12 hv6 rfl (by first | rfl | assumption) rfl rfl rfl (qX12_must mx x6 (i := 7) (by decide) (c := 41) (by decide +kernel) (by decide +kernel) (by unfold kpSn; decide)) (by omega) (fun _ v7 q7 => ?_)
              obtain ⟨rfl, x7⟩ := q7
              have hv7 := x7.e.wd mx.wd
              refine kv_aload_n dX12_one_74 rfl ?_
              refine kv_iload_n dX12_one_75 rfl ?_
              refine kv_if_eq dX12_one_76 85 (by decide) (fun h5 => ?_) (fun h5 => ?_)
              · refine kv_sipush dX12_one_85 20010 kz_20010 ?_
                refine kw_VQ [_] mX12_codes dX12_one_88 lX12_225 wX12_codes kC12 hv7 rfl (by first | rfl | assumption) rfl rfl rfl (qX12_codes mx x7 20010 (fun s5 q => kpMM_sl (B := kpB g) (op := op) (R := kpPr (kpB g) (kN g 5) use D) (fun o s t => kpPr_gd (fun i hi => mx.hg.2.2.2.2.2.2.2.2 i hi) D 0 o s t) hlt hsl (by rw [hEx]; exact q))) (by omega) (fun _ v8 q8 => ?_)
                obtain ⟨rfl, x8⟩ := q8
                have hv8 := x8.e.wd mx.wd
                refine kv_aload_n dX12_one_91 rfl ?_
                refine kv_dup dX12_one_92 rfl ?_
                refine kw_gI dX12_one_93 fX12_257 hv8 (by first | rfl | assumption) rfl rfl ?_
                refine kv_iconst dX12_one_96 1 ki_1 ?_
                refine kv_isub dX12_one_97 ?_
                refine kw_pI dX12_one_98 fX12_257 hv8 (by first | rfl | assumption) rfl rfl ?_
                refine kv_goto dX12_one_101 217 (by decide) ?_
                exact kv_vret dX12_one_217 rfl (by rw [hS2]; exact ⟨rfl, x8.dec⟩)
              · exact absurd h5 (by decide)
          · have hS2 : kpPr (kpB g) (kN g 5) use (D + 1) 5 op s = .error (kpNx (kpB g) (kN g 5) s.1) := by
              rw [hS]
              unfold kpMM
              rw [kpEx_n (s := (kpNx (kpB g) (kN g 5) s.1, s.2)) (fun q => hfv q.2)]
              rfl
            refine kw_VQ [] mX12_opens dX12_one_46 lX12_264 wX12_opens kC12 hv2 rfl (by first | rfl | assumption) rfl rfl rfl (qX12_opens_n mx x2 hfv hop) (by omega) (fun _ v3 q3 => ?_)
            obtain ⟨rfl, x3⟩ := q3
            have hv3 := x3.1.wd mx.wd
            refine kv_if_eq dX12_one_49 217 (by decide) (fun h6 => ?_) (fun h6 => ?_)
            · exact kv_vret dX12_one_217 rfl (by rw [hS2]; exact ⟨rfl, x3⟩)
            · exact absurd h6 (by decide)
        · exact absurd h3 (by decide)
      · have hS2 : kpPr (kpB g) (kN g 5) use (D + 1) 5 op s = .error (kpNx (kpB g) (kN g 5) s.1) := by
          rw [hS]
          unfold kpMM
          rw [kpEx_n (s := (kpNx (kpB g) (kN g 5) s.1, s.2)) (fun q => hP ((kpAt_1 (g := g) (s := (kpNx (kpB g) (kN g 5) s.1, s.2)) (i := 5) (c := 40) (by decide +kernel) (by decide +kernel) (by unfold kpSn; decide)).mpr q.1))]
          rfl
        refine kw_Vi [_] mX12_isAt dX12_one_31 lX12_207 wX12_isAt kC12 hv1 rfl (by first | rfl | assumption) rfl rfl rfl (qX12_isAt_n mx x1 (i := 5) (by decide) hP) (by omega) ?_
        refine kv_if_ne dX12_one_34 41 (by decide) (fun h7 => ?_) (fun h7 => ?_)
        · exact absurd h7 (by decide)
        · refine kv_iconst dX12_one_37 1 ki_1 ?_
          refine kv_goto dX12_one_38 42 (by decide) ?_
          refine kw_pZ dX12_one_42 fX12_196 hv1 (by first | rfl | assumption) rfl rfl (by first | exact Or.inl rfl | exact Or.inr rfl | assumption) ?_
          have x2 := x1.w1 hg
          have hv2 := x2.1.wd mx.wd
          refine kv_aload_n dX12_one_45 rfl ?_
          refine kw_VQ [] mX12_opens dX12_one_46 lX12_264 wX12_opens kC12 hv2 rfl (by first | rfl | assumption) rfl rfl rfl (qX12_opens_e mx x2) (by omega) (fun _ v3 q3 => ?_)
          obtain ⟨rfl, x3⟩ := q3
          have hv3 := x3.1.wd mx.wd
          refine kv_if_eq dX12_one_49 217 (by decide) (fun h8 => ?_) (fun h8 => ?_)
          · exact kv_vret dX12_one_217 rfl (by rw [hS2]; exact ⟨rfl, x3⟩)
          · exact absurd h8 (by decide)

set_option maxRecDepth 20000 in
set_option maxHeartbeats 4000000 in
theorem qX12_one_8 {w : KW} {l : Launch} {u : KMem} {g : Nat → Int32} {use : Nat} (mx : kpMx u g use) {D op : Nat} (hop : op ≤ 5) (hT : op < 5 → ∀ (r : KPt) (v : KMem), kpMr u g (op + 1) r v → KC w l mX12_text (D + 10) 0 0 [.ref 413] v (fun q z => q = none ∧ kpMr u g (op + 1) (kpBd r (kpPr (kpB g) (kN g 5) use D 0 (op + 1))) z)) (hO : op < 5 → ∀ (s : KPs) (v : KMem), kpMs u g (op + 1) s v → KC w l mX12_one (D + 10) 0 0 [.ref 413] v (fun q z => q = none ∧ kpMr u g (op + 1) (kpPr (kpB g) (kN g 5) use D 5 (op + 1) s) z)) {v : KMem} {s : KPs} (hX : kpMs u g op s v) (hM : kpAt g s 8) : KC w l mX12_one (D + 11) 0 0 [.ref 413] v (fun q z => q = none ∧ kpMr u g op (kpPr (kpB g) (kN g 5) use (D + 1) 5 op s) z) := by
  have hu := mx.wd
  have eg := mx.eg
  have hg := mx.hg
  have hw5 := hg.cnt (k := 5) rfl
  obtain ⟨E, g10, g6, g7, g9, gc, gs, hp, hsl⟩ := id hX
  have mv := mx.of E
  have hv := mv.wd
  have egv := mv.eg
  have hte := kpTe_le (B := kpB g) hp
  have hwo : kpWo (kpB g) (kN g 5) s.1 = 33 := (kpAt_1 (g := g) (s := s) (i := 8) (c := 33) (by decide +kernel) (by decide +kernel) (by unfold kpSn; decide)).mp hM
  have hlt : s.1 < kN g 5 := ((kpWo_is (by unfold kpSn; decide)).mp hwo).1
  have hM3 : ¬ kpAt g s 3 := (fun q : kpAt g s 3 => by have := (kpW3_lr ((kpAt_3 (g := g) (s := s) (i := 3) (a := 109) (b := 97) (c := 120) (by decide +kernel) (by decide +kernel) (by decide +kernel) (by decide +kernel)).mp q)).2; rw [hwo] at this; exact absurd this (by decide))
  have hM4 : ¬ kpAt g s 4 := (fun q : kpAt g s 4 => by have := (kpW3_lr ((kpAt_3 (g := g) (s := s) (i := 4) (a := 109) (b := 105) (c := 110) (by decide +kernel) (by decide +kernel) (by decide +kernel) (by decide +kernel)).mp q)).2; rw [hwo] at this; exact absurd this (by decide))
  have hS : kpPr (kpB g) (kN g 5) use (D + 1) 5 op s = kpSd (kpB g) (kN g 5) (kpPr (kpB g) (kN g 5) use D) op s := kpPr_5.trans ((if_neg (by rw [hwo]; decide)).trans ((if_neg (by rw [hwo]; decide)).trans (if_pos (by rw [hwo]; decide))))
  refine KC.of (ls := [_, _, _]) rfl rfl (Nat.le_of_ble_eq_true rfl) ?_
  refine kv_aload_n dX12_one_0 rfl ?_
  refine kv_ldcSW (i := 3) dX12_one_1 rfl rfl rfl ?_
  refine kw_Vi [_] mX12_isAt dX12_one_4 lX12_207 wX12_isAt kC12 hv rfl (by first | rfl | assumption) rfl rfl rfl (qX12_isAt_n mx hX (i := 3) (by decide) hM3) (by omega) ?_
  refine kv_istore_n (ls2 := [_, _, _]) dX12_one_7 rfl rfl rfl rfl ?_
  refine kv_iload_n dX12_one_8 rfl ?_
  refine kv_if_ne dX12_one_9 22 (by decide) (fun h1 => ?_) (fun h1 => ?_)
  · exact absurd h1 (by decide)
  · refine kv_aload_n dX12_one_12 rfl ?_
    refine kv_ldcSW (i := 4) dX12_one_13 rfl rfl rfl ?_
    refine kw_Vi [_] mX12_isAt dX12_one_16 lX12_207 wX12_isAt kC12 hv rfl (by first | rfl | assumption) rfl rfl rfl (qX12_isAt_n mx hX (i := 4) (by decide) hM4) (by omega) ?_
    refine kv_if_eq dX12_one_19 104 (by decide) (fun h2 => ?_) (fun h2 => ?_)
    · refine kv_aload_n dX12_one_104 rfl ?_
      refine kv_ldcSW (i := 8) dX12_one_105 rfl rfl rfl ?_
      refine kw_Vi [_] mX12_isAt dX12_one_108 lX12_207 wX12_isAt kC12 hv rfl (by first | rfl | assumption) rfl rfl rfl (qX12_isAt_y mx hX (i := 8) (by decide) hM) (by omega) ?_
      refine kv_if_ne dX12_one_111 123 (by decide) (fun h3 => ?_) (fun h3 => ?_)
      · refine kv_aload_n dX12_one_123 rfl ?_
        refine kv_ldcSW (i := 8) dX12_one_124 rfl rfl rfl ?_
        refine kw_Vi [_] mX12_isAt dX12_one_127 lX12_207 wX12_isAt kC12 hv rfl (by first | rfl | assumption) rfl rfl rfl (qX12_isAt_y mx hX (i := 8) (by decide) hM) (by omega) ?_
        refine kv_istore_n (ls2 := [_, _, _]) dX12_one_130 rfl rfl rfl rfl ?_
        refine kv_aload_n dX12_one_131 rfl ?_
        by_cases hfv : op < 5
        · have hS2 : kpPr (kpB g) (kN g 5) use (D + 1) 5 op s = kpBd (kpPr (kpB g) (kN g 5) use D 5 (op + 1) (kpNx (kpB g) (kN g 5) s.1, s.2)) (kpPu 20011) := by
            rw [hS]
            unfold kpSd
            rw [if_pos hfv, hwo]
            rfl
          refine kw_VQ [] mX12_opens dX12_one_132 lX12_264 wX12_opens kC12 hv rfl (by first | rfl | assumption) rfl rfl rfl (qX12_opens_y mx hX hlt hfv) (by omega) (fun _ v3 q3 => ?_)
          obtain ⟨rfl, x3⟩ := q3
          have hv3 := x3.1.wd mx.wd
          refine kv_if_eq dX12_one_135 169 (by decide) (fun h4 => ?_) (fun h4 => ?_)
          · exact absurd h4 (by decide)
          · refine kv_aload_n dX12_one_138 rfl ?_
            refine kw_VQ [] mX12_one dX12_one_139 lX12_250 wX12_one kC12 hv3 rfl (by first | rfl | assumption) rfl rfl rfl (hO hfv _ _ x3) (by omega) (fun _ v4 q4 => ?_)
            obtain ⟨rfl, x4⟩ := q4
            have hv4 := x4.e.wd mx.wd
            refine kv_aload_n dX12_one_142 rfl ?_
            refine kv_iload_n dX12_one_143 rfl ?_
            refine kv_if_eq dX12_one_144 153 (by decide) (fun h5 => ?_) (fun h5 => ?_)
            · exact absurd h5 (by decide)
            · refine kv_sipush dX12_one_147 20011 kz_20011 ?_
              refine kv_goto dX12_one_150 156 (by decide) ?_
              refine kw_VQ [_] mX12_codes dX12_one_156 lX12_225 wX12_codes kC12 hv4 rfl (by first | rfl | assumption) rfl rfl rfl (qX12_codes mx x4 20011 (fun s5 q => kpSl (fun i hi => mx.hg.2.2.2.2.2.2.2.2 i hi) hlt hsl q)) (by omega) (fun _ v5 q5 => ?_)
              obtain ⟨rfl, x5⟩ := q5
              have hv5 := x5.e.wd mx.wd
              refine kv_aload_n dX12_one_159 rfl ?_
              refine kv_dup dX12_one_160 rfl ?_
              refine kw_gI dX12_one_161 fX12_257 hv5 (by first | rfl | assumption) rfl rfl ?_
              refine kv_iconst dX12_one_164 1 ki_1 ?_
              refine kv_isub dX12_one_165 ?_
              refine kw_pI dX12_one_166 fX12_257 hv5 (by first | rfl | assumption) rfl rfl ?_
              refine kv_goto dX12_one_169 217 (by decide) ?_
              exact kv_vret dX12_one_217 rfl (by rw [hS2]; exact ⟨rfl, x5.dec⟩)
        · have hS2 : kpPr (kpB g) (kN g 5) use (D + 1) 5 op s = .error s.1 := hS.trans (if_neg hfv)
          refine kw_VQ [] mX12_opens dX12_one_132 lX12_264 wX12_opens kC12 hv rfl (by first | rfl | assumption) rfl rfl rfl (qX12_opens_n mx hX hfv hop) (by omega) (fun _ v3 q3 => ?_)
          obtain ⟨rfl, x3⟩ := q3
          have hv3 := x3.1.wd mx.wd
          refine kv_if_eq dX12_one_135 169 (by decide) (fun h6 => ?_) (fun h6 => ?_)
          · refine kv_goto dX12_one_169 217 (by decide) ?_
            exact kv_vret dX12_one_217 rfl (by rw [hS2]; exact ⟨rfl, x3⟩)
          · exact absurd h6 (by decide)
      · exact absurd h3 (by decide)
    · exact absurd h2 (by decide)

set_option maxRecDepth 20000 in
set_option maxHeartbeats 4000000 in
theorem qX12_one_9 {w : KW} {l : Launch} {u : KMem} {g : Nat → Int32} {use : Nat} (mx : kpMx u g use) {D op : Nat} (hop : op ≤ 5) (hT : op < 5 → ∀ (r : KPt) (v : KMem), kpMr u g (op + 1) r v → KC w l mX12_text (D + 10) 0 0 [.ref 413] v (fun q z => q = none ∧ kpMr u g (op + 1) (kpBd r (kpPr (kpB g) (kN g 5) use D 0 (op + 1))) z)) (hO : op < 5 → ∀ (s : KPs) (v : KMem), kpMs u g (op + 1) s v → KC w l mX12_one (D + 10) 0 0 [.ref 413] v (fun q z => q = none ∧ kpMr u g (op + 1) (kpPr (kpB g) (kN g 5) use D 5 (op + 1) s) z)) {v : KMem} {s : KPs} (hX : kpMs u g op s v) (hM : kpAt g s 9) : KC w l mX12_one (D + 11) 0 0 [.ref 413] v (fun q z => q = none ∧ kpMr u g op (kpPr (kpB g) (kN g 5) use (D + 1) 5 op s) z) := by
  have hu := mx.wd
  have eg := mx.eg
  have hg := mx.hg
  have hw5 := hg.cnt (k := 5) rfl
  obtain ⟨E, g10, g6, g7, g9, gc, gs, hp, hsl⟩ := id hX
  have mv := mx.of E
  have hv := mv.wd
  have egv := mv.eg
  have hte := kpTe_le (B := kpB g) hp
  have hwo : kpWo (kpB g) (kN g 5) s.1 = 45 := (kpAt_1 (g := g) (s := s) (i := 9) (c := 45) (by decide +kernel) (by decide +kernel) (by unfold kpSn; decide)).mp hM
  have hlt : s.1 < kN g 5 := ((kpWo_is (by unfold kpSn; decide)).mp hwo).1
  have hM3 : ¬ kpAt g s 3 := (fun q : kpAt g s 3 => by have := (kpW3_lr ((kpAt_3 (g := g) (s := s) (i := 3) (a := 109) (b := 97) (c := 120) (by decide +kernel) (by decide +kernel) (by decide +kernel) (by decide +kernel)).mp q)).2; rw [hwo] at this; exact absurd this (by decide))
  have hM4 : ¬ kpAt g s 4 := (fun q : kpAt g s 4 => by have := (kpW3_lr ((kpAt_3 (g := g) (s := s) (i := 4) (a := 109) (b := 105) (c := 110) (by decide +kernel) (by decide +kernel) (by decide +kernel) (by decide +kernel)).mp q)).2; rw [hwo] at this; exact absurd this (by decide))
  have hM8 : ¬ kpAt g s 8 := fun q => absurd (hwo.symm.trans ((kpAt_1 (g := g) (s := s) (i := 8) (c := 33) (by decide +kernel) (by decide +kernel) (by unfold kpSn; decide)).mp q)) (by decide)
  have hS : kpPr (kpB g) (kN g 5) use (D + 1) 5 op s = kpSd (kpB g) (kN g 5) (kpPr (kpB g) (kN g 5) use D) op s := kpPr_5.trans ((if_neg (by rw [hwo]; decide)).trans ((if_neg (by rw [hwo]; decide)).trans (if_pos (by rw [hwo]; decide))))
  refine KC.of (ls := [_, _, _]) rfl rfl (Nat.le_of_ble_eq_true rfl) ?_
  refine kv_aload_n dX12_one_0 rfl ?_
  refine kv_ldcSW (i := 3) dX12_one_1 rfl rfl rfl ?_
  refine kw_Vi [_] mX12_isAt dX12_one_4 lX12_207 wX12_isAt kC12 hv rfl (by first | rfl | assumption) rfl rfl rfl (qX12_isAt_n mx hX (i := 3) (by decide) hM3) (by omega) ?_
  refine kv_istore_n (ls2 := [_, _, _]) dX12_one_7 rfl rfl rfl rfl ?_
  refine kv_iload_n dX12_one_8 rfl ?_
  refine kv_if_ne dX12_one_9 22 (by decide) (fun h1 => ?_) (fun h1 => ?_)
  · exact absurd h1 (by decide)
  · refine kv_aload_n dX12_one_12 rfl ?_
    refine kv_ldcSW (i := 4) dX12_one_13 rfl rfl rfl ?_
    refine kw_Vi [_] mX12_isAt dX12_one_16 lX12_207 wX12_isAt kC12 hv rfl (by first | rfl | assumption) rfl rfl rfl (qX12_isAt_n mx hX (i := 4) (by decide) hM4) (by omega) ?_
    refine kv_if_eq dX12_one_19 104 (by decide) (fun h2 => ?_) (fun h2 => ?_)
    · refine kv_aload_n dX12_one_104 rfl ?_
      refine kv_ldcSW (i := 8) dX12_one_105 rfl rfl rfl ?_
      refine kw_Vi [_] mX12_isAt dX12_one_108 lX12_207 wX12_isAt kC12 hv rfl (by first | rfl | assumption) rfl rfl rfl (qX12_isAt_n mx hX (i := 8) (by decide) hM8) (by omega) ?_
      refine kv_if_ne dX12_one_111 123 (by decide) (fun h3 => ?_) (fun h3 => ?_)
      · exact absurd h3 (by decide)
      · refine kv_aload_n dX12_one_114 rfl ?_
        refine kv_ldcS (i := 9) dX12_one_115 rfl rfl rfl ?_
        refine kw_Vi [_] mX12_isAt dX12_one_117 lX12_207 wX12_isAt kC12 hv rfl (by first | rfl | assumption) rfl rfl rfl (qX12_isAt_y mx hX (i := 9) (by decide) hM) (by omega) ?_
        refine kv_if_eq dX12_one_120 172 (by decide) (fun h4 => ?_) (fun h4 => ?_)
        · exact absurd h4 (by decide)
        · refine kv_aload_n dX12_one_123 rfl ?_
          refine kv_ldcSW (i := 8) dX12_one_124 rfl rfl rfl ?_
          refine kw_Vi [_] mX12_isAt dX12_one_127 lX12_207 wX12_isAt kC12 hv rfl (by first | rfl | assumption) rfl rfl rfl (qX12_isAt_n mx hX (i := 8) (by decide) hM8) (by omega) ?_
          refine kv_istore_n (ls2 := [_, _, _]) dX12_one_130 rfl rfl rfl rfl ?_
          refine kv_aload_n dX12_one_131 rfl ?_
          by_cases hfv : op < 5
          · have hS2 : kpPr (kpB g) (kN g 5) use (D + 1) 5 op s = kpBd (kpPr (kpB g) (kN g 5) use D 5 (op + 1) (kpNx (kpB g) (kN g 5) s.1, s.2)) (kpPu 20012) := by
              rw [hS]
              unfold kpSd
              rw [if_pos hfv, hwo]
              rfl
            refine kw_VQ [] mX12_opens dX12_one_132 lX12_264 wX12_opens kC12 hv rfl (by first | rfl | assumption) rfl rfl rfl (qX12_opens_y mx hX hlt hfv) (by omega) (fun _ v3 q3 => ?_)
            obtain ⟨rfl, x3⟩ := q3
            have hv3 := x3.1.wd mx.wd
            refine kv_if_eq dX12_one_135 169 (by decide) (fun h5 => ?_) (fun h5 => ?_)
            · exact absurd h5 (by decide)
            · refine kv_aload_n dX12_one_138 rfl ?_
              refine kw_VQ [] mX12_one dX12_one_139 lX12_250 wX12_one kC12 hv3 rfl (by first | rfl | assumption) rfl rfl rfl (hO hfv _ _ x3) (by omega) (fun _ v4 q4 => ?_)
              obtain ⟨rfl, x4⟩ := q4
              have hv4 := x4.e.wd mx.wd
              refine kv_aload_n dX12_one_142 rfl ?_
              refine kv_iload_n dX12_one_143 rfl ?_
              refine kv_if_eq dX12_one_144 153 (by decide) (fun h6 => ?_) (fun h6 => ?_)
              · refine kv_sipush dX12_one_153 20012 kz_20012 ?_
                refine kw_VQ [_] mX12_codes dX12_one_156 lX12_225 wX12_codes kC12 hv4 rfl (by first | rfl | assumption) rfl rfl rfl (qX12_codes mx x4 20012 (fun s5 q => kpSl (fun i hi => mx.hg.2.2.2.2.2.2.2.2 i hi) hlt hsl q)) (by omega) (fun _ v5 q5 => ?_)
                obtain ⟨rfl, x5⟩ := q5
                have hv5 := x5.e.wd mx.wd
                refine kv_aload_n dX12_one_159 rfl ?_
                refine kv_dup dX12_one_160 rfl ?_
                refine kw_gI dX12_one_161 fX12_257 hv5 (by first | rfl | assumption) rfl rfl ?_
                refine kv_iconst dX12_one_164 1 ki_1 ?_
                refine kv_isub dX12_one_165 ?_
                refine kw_pI dX12_one_166 fX12_257 hv5 (by first | rfl | assumption) rfl rfl ?_
                refine kv_goto dX12_one_169 217 (by decide) ?_
                exact kv_vret dX12_one_217 rfl (by rw [hS2]; exact ⟨rfl, x5.dec⟩)
              · exact absurd h6 (by decide)
          · have hS2 : kpPr (kpB g) (kN g 5) use (D + 1) 5 op s = .error s.1 := hS.trans (if_neg hfv)
            refine kw_VQ [] mX12_opens dX12_one_132 lX12_264 wX12_opens kC12 hv rfl (by first | rfl | assumption) rfl rfl rfl (qX12_opens_n mx hX hfv hop) (by omega) (fun _ v3 q3 => ?_)
            obtain ⟨rfl, x3⟩ := q3
            have hv3 := x3.1.wd mx.wd
            refine kv_if_eq dX12_one_135 169 (by decide) (fun h7 => ?_) (fun h7 => ?_)
            · refine kv_goto dX12_one_169 217 (by decide) ?_
              exact kv_vret dX12_one_217 rfl (by rw [hS2]; exact ⟨rfl, x3⟩)
            · exact absurd h7 (by decide)
    · exact absurd h2 (by decide)

set_option maxRecDepth 20000 in
set_option maxHeartbeats 4000000 in
theorem qX12_one_5 {w : KW} {l : Launch} {u : KMem} {g : Nat → Int32} {use : Nat} (mx : kpMx u g use) {D op : Nat} (hop : op ≤ 5) (hT : op < 5 → ∀ (r : KPt) (v : KMem), kpMr u g (op + 1) r v → KC w l mX12_text (D + 10) 0 0 [.ref 413] v (fun q z => q = none ∧ kpMr u g (op + 1) (kpBd r (kpPr (kpB g) (kN g 5) use D 0 (op + 1))) z)) (hO : op < 5 → ∀ (s : KPs) (v : KMem), kpMs u g (op + 1) s v → KC w l mX12_one (D + 10) 0 0 [.ref 413] v (fun q z => q = none ∧ kpMr u g (op + 1) (kpPr (kpB g) (kN g 5) use D 5 (op + 1) s) z)) {v : KMem} {s : KPs} (hX : kpMs u g op s v) (hM : kpAt g s 5) : KC w l mX12_one (D + 11) 0 0 [.ref 413] v (fun q z => q = none ∧ kpMr u g op (kpPr (kpB g) (kN g 5) use (D + 1) 5 op s) z) := by
  have hu := mx.wd
  have eg := mx.eg
  have hg := mx.hg
  have hw5 := hg.cnt (k := 5) rfl
  obtain ⟨E, g10, g6, g7, g9, gc, gs, hp, hsl⟩ := id hX
  have mv := mx.of E
  have hv := mv.wd
  have egv := mv.eg
  have hte := kpTe_le (B := kpB g) hp
  have hwo : kpWo (kpB g) (kN g 5) s.1 = 40 := (kpAt_1 (g := g) (s := s) (i := 5) (c := 40) (by decide +kernel) (by decide +kernel) (by unfold kpSn; decide)).mp hM
  have hlt : s.1 < kN g 5 := ((kpWo_is (by unfold kpSn; decide)).mp hwo).1
  have hM3 : ¬ kpAt g s 3 := (fun q : kpAt g s 3 => by have := (kpW3_lr ((kpAt_3 (g := g) (s := s) (i := 3) (a := 109) (b := 97) (c := 120) (by decide +kernel) (by decide +kernel) (by decide +kernel) (by decide +kernel)).mp q)).2; rw [hwo] at this; exact absurd this (by decide))
  have hM4 : ¬ kpAt g s 4 := (fun q : kpAt g s 4 => by have := (kpW3_lr ((kpAt_3 (g := g) (s := s) (i := 4) (a := 109) (b := 105) (c := 110) (by decide +kernel) (by decide +kernel) (by decide +kernel) (by decide +kernel)).mp q)).2; rw [hwo] at this; exact absurd this (by decide))
  have hM8 : ¬ kpAt g s 8 := fun q => absurd (hwo.symm.trans ((kpAt_1 (g := g) (s := s) (i := 8) (c := 33) (by decide +kernel) (by decide +kernel) (by unfold kpSn; decide)).mp q)) (by decide)
  have hM9 : ¬ kpAt g s 9 := fun q => absurd (hwo.symm.trans ((kpAt_1 (g := g) (s := s) (i := 9) (c := 45) (by decide +kernel) (by decide +kernel) (by unfold kpSn; decide)).mp q)) (by decide)
  have hS : kpPr (kpB g) (kN g 5) use (D + 1) 5 op s = kpBd (kpBd (kpEx (kpB g) (kN g 5) 40 op s) (kpPr (kpB g) (kN g 5) use D 0 (op + 1))) (kpEx (kpB g) (kN g 5) 41 0) := kpPr_5.trans ((if_neg (by rw [hwo]; decide)).trans ((if_neg (by rw [hwo]; decide)).trans (if_neg (by rw [hwo]; decide))))
  refine KC.of (ls := [_, _, _]) rfl rfl (Nat.le_of_ble_eq_true rfl) ?_
  refine kv_aload_n dX12_one_0 rfl ?_
  refine kv_ldcSW (i := 3) dX12_one_1 rfl rfl rfl ?_
  refine kw_Vi [_] mX12_isAt dX12_one_4 lX12_207 wX12_isAt kC12 hv rfl (by first | rfl | assumption) rfl rfl rfl (qX12_isAt_n mx hX (i := 3) (by decide) hM3) (by omega) ?_
  refine kv_istore_n (ls2 := [_, _, _]) dX12_one_7 rfl rfl rfl rfl ?_
  refine kv_iload_n dX12_one_8 rfl ?_
  refine kv_if_ne dX12_one_9 22 (by decide) (fun h1 => ?_) (fun h1 => ?_)
  · exact absurd h1 (by decide)
  · refine kv_aload_n dX12_one_12 rfl ?_
    refine kv_ldcSW (i := 4) dX12_one_13 rfl rfl rfl ?_
    refine kw_Vi [_] mX12_isAt dX12_one_16 lX12_207 wX12_isAt kC12 hv rfl (by first | rfl | assumption) rfl rfl rfl (qX12_isAt_n mx hX (i := 4) (by decide) hM4) (by omega) ?_
    refine kv_if_eq dX12_one_19 104 (by decide) (fun h2 => ?_) (fun h2 => ?_)
    · refine kv_aload_n dX12_one_104 rfl ?_
      refine kv_ldcSW (i := 8) dX12_one_105 rfl rfl rfl ?_
      refine kw_Vi [_] mX12_isAt dX12_one_108 lX12_207 wX12_isAt kC12 hv rfl (by first | rfl | assumption) rfl rfl rfl (qX12_isAt_n mx hX (i := 8) (by decide) hM8) (by omega) ?_
      refine kv_if_ne dX12_one_111 123 (by decide) (fun h3 => ?_) (fun h3 => ?_)
      · exact absurd h3 (by decide)
      · refine kv_aload_n dX12_one_114 rfl ?_
        refine kv_ldcS (i := 9) dX12_one_115 rfl rfl rfl ?_
        refine kw_Vi [_] mX12_isAt dX12_one_117 lX12_207 wX12_isAt kC12 hv rfl (by first | rfl | assumption) rfl rfl rfl (qX12_isAt_n mx hX (i := 9) (by decide) hM9) (by omega) ?_
        refine kv_if_eq dX12_one_120 172 (by decide) (fun h4 => ?_) (fun h4 => ?_)
        · refine kv_aload_n dX12_one_172 rfl ?_
          refine kv_ldcSW (i := 5) dX12_one_173 rfl rfl rfl ?_
          refine kw_Vi [_] mX12_isAt dX12_one_176 lX12_207 wX12_isAt kC12 hv rfl (by first | rfl | assumption) rfl rfl rfl (qX12_isAt_y mx hX (i := 5) (by decide) hM) (by omega) ?_
          refine kv_if_eq dX12_one_179 213 (by decide) (fun h5 => ?_) (fun h5 => ?_)
          · exact absurd h5 (by decide)
          · refine kv_aload_n dX12_one_182 rfl ?_
            by_cases hfv : op < 5
            · have hS2 : kpPr (kpB g) (kN g 5) use (D + 1) 5 op s = kpBd (kpBd (.ok (kpNx (kpB g) (kN g 5) s.1, s.2)) (kpPr (kpB g) (kN g 5) use D 0 (op + 1))) (kpEx (kpB g) (kN g 5) 41 0) := by
                rw [hS, kpEx_y hwo hfv]
              refine kw_VQ [] mX12_opens dX12_one_183 lX12_264 wX12_opens kC12 hv rfl (by first | rfl | assumption) rfl rfl rfl (qX12_opens_y mx hX hlt hfv) (by omega) (fun _ v3 q3 => ?_)
              obtain ⟨rfl, x3⟩ := q3
              have hv3 := x3.1.wd mx.wd
              have y3 : kpMr u g (op + 1) (.ok (kpNx (kpB g) (kN g 5) s.1, s.2)) v3 := x3
              refine kv_if_eq dX12_one_186 217 (by decide) (fun h6 => ?_) (fun h6 => ?_)
              · exact absurd h6 (by decide)
              · refine kv_aload_n dX12_one_189 rfl ?_
                refine kw_VQ [] mX12_text dX12_one_190 lX12_268 wX12_text kC12 hv3 rfl (by first | rfl | assumption) rfl rfl rfl (hT hfv _ _ y3) (by omega) (fun _ v4 q4 => ?_)
                obtain ⟨rfl, x4⟩ := q4
                have hv4 := x4.e.wd mx.wd
                refine kv_aload_n dX12_one_193 rfl ?_
                refine kv_ldcSW (i := 7) dX12_one_194 rfl rfl rfl ?_
                refine kw_VQ [_] mX12_must dX12_one_197 lX12_273 wX12_must kC12 hv4 rfl (by first | rfl | assumption) rfl rfl rfl (qX12_must mx x4 (i := 7) (by decide) (c := 41) (by decide +kernel) (by decide +kernel) (by unfold kpSn; decide)) (by omega) (fun _ v5 q5 => ?_)
                obtain ⟨rfl, x5⟩ := q5
                have hv5 := x5.e.wd mx.wd
                refine kv_aload_n dX12_one_200 rfl ?_
                refine kv_dup dX12_one_201 rfl ?_
                refine kw_gI dX12_one_202 fX12_257 hv5 (by first | rfl | assumption) rfl rfl ?_
                refine kv_iconst dX12_one_205 1 ki_1 ?_
                refine kv_isub dX12_one_206 ?_
                refine kw_pI dX12_one_207 fX12_257 hv5 (by first | rfl | assumption) rfl rfl ?_
                refine kv_goto dX12_one_210 217 (by decide) ?_
                exact kv_vret dX12_one_217 rfl (by rw [hS2]; exact ⟨rfl, x5.dec⟩)
            · have hS2 : kpPr (kpB g) (kN g 5) use (D + 1) 5 op s = .error s.1 := by
                rw [hS, kpEx_n (fun q => hfv q.2)]
                rfl
              refine kw_VQ [] mX12_opens dX12_one_183 lX12_264 wX12_opens kC12 hv rfl (by first | rfl | assumption) rfl rfl rfl (qX12_opens_n mx hX hfv hop) (by omega) (fun _ v3 q3 => ?_)
              obtain ⟨rfl, x3⟩ := q3
              have hv3 := x3.1.wd mx.wd
              refine kv_if_eq dX12_one_186 217 (by decide) (fun h7 => ?_) (fun h7 => ?_)
              · exact kv_vret dX12_one_217 rfl (by rw [hS2]; exact ⟨rfl, x3⟩)
              · exact absurd h7 (by decide)
        · exact absurd h4 (by decide)
    · exact absurd h2 (by decide)

set_option maxRecDepth 20000 in
set_option maxHeartbeats 4000000 in
theorem qX12_one_p {w : KW} {l : Launch} {u : KMem} {g : Nat → Int32} {use : Nat} (mx : kpMx u g use) {D op : Nat} (hop : op ≤ 5) (hT : op < 5 → ∀ (r : KPt) (v : KMem), kpMr u g (op + 1) r v → KC w l mX12_text (D + 10) 0 0 [.ref 413] v (fun q z => q = none ∧ kpMr u g (op + 1) (kpBd r (kpPr (kpB g) (kN g 5) use D 0 (op + 1))) z)) (hO : op < 5 → ∀ (s : KPs) (v : KMem), kpMs u g (op + 1) s v → KC w l mX12_one (D + 10) 0 0 [.ref 413] v (fun q z => q = none ∧ kpMr u g (op + 1) (kpPr (kpB g) (kN g 5) use D 5 (op + 1) s) z)) {v : KMem} {s : KPs} (hX : kpMs u g op s v) (hM3 : ¬ kpAt g s 3) (hM4 : ¬ kpAt g s 4) (hM8 : ¬ kpAt g s 8) (hM9 : ¬ kpAt g s 9) (hM5 : ¬ kpAt g s 5) : KC w l mX12_one (D + 11) 0 0 [.ref 413] v (fun q z => q = none ∧ kpMr u g op (kpPr (kpB g) (kN g 5) use (D + 1) 5 op s) z) := by
  have hu := mx.wd
  have eg := mx.eg
  have hg := mx.hg
  have hw5 := hg.cnt (k := 5) rfl
  obtain ⟨E, g10, g6, g7, g9, gc, gs, hp, hsl⟩ := id hX
  have mv := mx.of E
  have hv := mv.wd
  have egv := mv.eg
  have hte := kpTe_le (B := kpB g) hp
  have hB : ∀ i, i < kN g 5 → kUp (kpB g i) 255 := fun i hi => mx.hg.2.2.2.2.2.2.2.2 i hi
  have hS : kpPr (kpB g) (kN g 5) use (D + 1) 5 op s = kpPl (kpB g) (kN g 5) use s := by
    rw [kpPr_5]
    unfold kpPl
    by_cases hd : s.1 < kN g 5 ∧ kpDg (kpB g s.1) = true
    · rw [if_pos hd]
      exact if_pos (kpTe_d hd.1 hd.2).2
    · rw [if_neg hd]
      have w1 : ¬ kpWo (kpB g) (kN g 5) s.1 = -2 := fun q => hd (kpWo_dg hB q)
      by_cases w2 : kpWo (kpB g) (kN g 5) s.1 = -3
      · exact (if_neg w1).trans ((if_pos w2).trans ((if_neg (fun q => hM3 ((kpAt_3 (g := g) (s := s) (i := 3) (a := 109) (b := 97) (c := 120) (by decide +kernel) (by decide +kernel) (by decide +kernel) (by decide +kernel)).mpr q))).trans (if_neg (fun q => hM4 ((kpAt_3 (g := g) (s := s) (i := 4) (a := 109) (b := 105) (c := 110) (by decide +kernel) (by decide +kernel) (by decide +kernel) (by decide +kernel)).mpr q)))))
      · refine (if_neg w1).trans ((if_neg w2).trans ((if_neg (fun q => q.elim (fun z => hM8 ((kpAt_1 (g := g) (s := s) (i := 8) (c := 33) (by decide +kernel) (by decide +kernel) (by unfold kpSn; decide)).mpr z)) (fun z => hM9 ((kpAt_1 (g := g) (s := s) (i := 9) (c := 45) (by decide +kernel) (by decide +kernel) (by unfold kpSn; decide)).mpr z)))).trans ?_))
        rw [kpEx_n (fun q => hM5 ((kpAt_1 (g := g) (s := s) (i := 5) (c := 40) (by decide +kernel) (by decide +kernel) (by unfold kpSn; decide)).mpr q.1))]
        refine Eq.symm (if_neg (fun q => w2 ?_))
        have hp : s.1 < kN g 5 := Decidable.byContradiction fun z => by
          have := q.1
          rw [kpTe_ge z] at this
          omega
        exact (kpTe_l hp (fun z => hd ⟨hp, z⟩) (kpNm_l q.2)).2
  refine KC.of (ls := [_, _, _]) rfl rfl (Nat.le_of_ble_eq_true rfl) ?_
  refine kv_aload_n dX12_one_0 rfl ?_
  refine kv_ldcSW (i := 3) dX12_one_1 rfl rfl rfl ?_
  refine kw_Vi [_] mX12_isAt dX12_one_4 lX12_207 wX12_isAt kC12 hv rfl (by first | rfl | assumption) rfl rfl rfl (qX12_isAt_n mx hX (i := 3) (by decide) hM3) (by omega) ?_
  refine kv_istore_n (ls2 := [_, _, _]) dX12_one_7 rfl rfl rfl rfl ?_
  refine kv_iload_n dX12_one_8 rfl ?_
  refine kv_if_ne dX12_one_9 22 (by decide) (fun h1 => ?_) (fun h1 => ?_)
  · exact absurd h1 (by decide)
  · refine kv_aload_n dX12_one_12 rfl ?_
    refine kv_ldcSW (i := 4) dX12_one_13 rfl rfl rfl ?_
    refine kw_Vi [_] mX12_isAt dX12_one_16 lX12_207 wX12_isAt kC12 hv rfl (by first | rfl | assumption) rfl rfl rfl (qX12_isAt_n mx hX (i := 4) (by decide) hM4) (by omega) ?_
    refine kv_if_eq dX12_one_19 104 (by decide) (fun h2 => ?_) (fun h2 => ?_)
    · refine kv_aload_n dX12_one_104 rfl ?_
      refine kv_ldcSW (i := 8) dX12_one_105 rfl rfl rfl ?_
      refine kw_Vi [_] mX12_isAt dX12_one_108 lX12_207 wX12_isAt kC12 hv rfl (by first | rfl | assumption) rfl rfl rfl (qX12_isAt_n mx hX (i := 8) (by decide) hM8) (by omega) ?_
      refine kv_if_ne dX12_one_111 123 (by decide) (fun h3 => ?_) (fun h3 => ?_)
      · exact absurd h3 (by decide)
      · refine kv_aload_n dX12_one_114 rfl ?_
        refine kv_ldcS (i := 9) dX12_one_115 rfl rfl rfl ?_
        refine kw_Vi [_] mX12_isAt dX12_one_117 lX12_207 wX12_isAt kC12 hv rfl (by first | rfl | assumption) rfl rfl rfl (qX12_isAt_n mx hX (i := 9) (by decide) hM9) (by omega) ?_
        refine kv_if_eq dX12_one_120 172 (by decide) (fun h4 => ?_) (fun h4 => ?_)
        · refine kv_aload_n dX12_one_172 rfl ?_
          refine kv_ldcSW (i := 5) dX12_one_173 rfl rfl rfl ?_
          refine kw_Vi [_] mX12_isAt dX12_one_176 lX12_207 wX12_isAt kC12 hv rfl (by first | rfl | assumption) rfl rfl rfl (qX12_isAt_n mx hX (i := 5) (by decide) hM5) (by omega) ?_
          refine kv_if_eq dX12_one_179 213 (by decide) (fun h5 => ?_) (fun h5 => ?_)
          · refine kv_aload_n dX12_one_213 rfl ?_
            refine kw_VQ [] mX12_plain dX12_one_214 lX12_281 wX12_plain kC12 hv rfl (by first | rfl | assumption) rfl rfl rfl (qX12_plain mx hX) (by omega) (fun _ v1 q1 => ?_)
            obtain ⟨rfl, x1⟩ := q1
            have hv1 := x1.e.wd mx.wd
            exact kv_vret dX12_one_217 rfl (by rw [hS]; exact ⟨rfl, x1⟩)
          · exact absurd h5 (by decide)
        · exact absurd h4 (by decide)
    · exact absurd h2 (by decide)

theorem qX12_one_s {w : KW} {l : Launch} {u : KMem} {g : Nat → Int32} {use : Nat} (mx : kpMx u g use) {D op : Nat} (hop : op ≤ 5) (hT : op < 5 → ∀ (r : KPt) (v : KMem), kpMr u g (op + 1) r v → KC w l mX12_text (D + 10) 0 0 [.ref 413] v (fun q z => q = none ∧ kpMr u g (op + 1) (kpBd r (kpPr (kpB g) (kN g 5) use D 0 (op + 1))) z)) (hO : op < 5 → ∀ (s : KPs) (v : KMem), kpMs u g (op + 1) s v → KC w l mX12_one (D + 10) 0 0 [.ref 413] v (fun q z => q = none ∧ kpMr u g (op + 1) (kpPr (kpB g) (kN g 5) use D 5 (op + 1) s) z)) {v : KMem} {s : KPs} (hX : kpMs u g op s v) : KC w l mX12_one (D + 11) 0 0 [.ref 413] v (fun q z => q = none ∧ kpMr u g op (kpPr (kpB g) (kN g 5) use (D + 1) 5 op s) z) := by
  by_cases h3 : kpAt g s 3
  · exact qX12_one_max mx hop hT hO hX h3
  by_cases h4 : kpAt g s 4
  · exact qX12_one_min mx hop hT hO hX h3 h4
  by_cases h8 : kpAt g s 8
  · exact qX12_one_8 mx hop hT hO hX h8
  by_cases h9 : kpAt g s 9
  · exact qX12_one_9 mx hop hT hO hX h9
  by_cases hfv : kpAt g s 5
  · exact qX12_one_5 mx hop hT hO hX hfv
  exact qX12_one_p mx hop hT hO hX h3 h4 h8 h9 hfv
theorem qX12_all {w : KW} {l : Launch} {u : KMem} {g : Nat → Int32} {use : Nat} (mx : kpMx u g use) : ∀ D : Nat, ∀ (lev op : Nat) (s : KPs) (v : KMem), lev ≤ 5 → op ≤ 5 → 36 ≤ D + lev + 6 * op → kpMs u g op s v → KC w l (kpMl lev) (D + 10) 0 0 [.ref 413] v (fun q z => q = none ∧ kpMr u g op (kpPr (kpB g) (kN g 5) use D lev op s) z)
  | 0, lev, op, s, v, h1, h2, h3, _ => absurd h3 (by omega)
  | D + 1, lev, op, s, v, h1, h2, h3, hX => by
    have hL := qX12_all (w := w) (l := l) mx D
    have hT : op < 5 → lev = 5 → ∀ (r : KPt) (v : KMem), kpMr u g (op + 1) r v → KC w l mX12_text (D + 10) 0 0 [.ref 413] v (fun q z => q = none ∧ kpMr u g (op + 1) (kpBd r (kpPr (kpB g) (kN g 5) use D 0 (op + 1))) z) := fun hfv hl r v hr => by
      cases r with
      | ok s => exact hL 0 (op + 1) s v (by omega) (by omega) (by omega) hr
      | error f => exact qX12_text_e mx hr (by omega)
    rcases (show lev = 0 ∨ lev = 1 ∨ lev = 2 ∨ lev = 3 ∨ lev = 4 ∨ lev = 5 by omega) with rfl | rfl | rfl | rfl | rfl | rfl
    · exact qX12_text_s mx h2 (fun s v q => hL 1 op s v (by omega) h2 (by omega) q) hX
    · exact qX12_both_s mx h2 (fun s v q => hL 2 op s v (by omega) h2 (by omega) q) hX
    · exact qX12_compared_s mx h2 (fun s v q => hL 3 op s v (by omega) h2 (by omega) q) hX
    · exact qX12_sum_s mx h2 (fun s v q => hL 4 op s v (by omega) h2 (by omega) q) hX
    · exact qX12_term_s mx h2 (fun s v q => hL 5 op s v (by omega) h2 (by omega) q) hX
    · exact qX12_one_s mx h2 (fun hfv => hT hfv rfl) (fun hfv s v q => hL 5 (op + 1) s v (by omega) (by omega) (by omega) q) hX
