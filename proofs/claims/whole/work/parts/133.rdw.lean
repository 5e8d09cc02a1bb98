/-! THE READER: words -/
set_option maxRecDepth 20000 in
set_option maxHeartbeats 4000000 in
theorem qX5_isWord {w : KW} {l : Launch} {u : KMem} {t : Nat} {B : Nat → Int32} {n use : Nat} (cx : kpCx u t B n use) {v : KMem} {s : KPs} (hX : kpXs u t B n s v) (a b c : Int32) : KC w l mX5_isWord 0 0 0 [.ref 388, .int a, .int b, .int c] v (kq (some (.int (if kpW3 B n s.1 a b c then 1 else 0))) v) := by
  have hu := cx.wd
  have ht := cx.ht
  have hn := cx.hn
  obtain ⟨E, g6, g4, g5, g3, gc, gs, hp, hsl⟩ := id hX
  have hv := E.wd hu
  have r0 : v.2.2.2 388 0 = some 11 := by rw [E.2.1]; exact cx.f0
  have r2 : v.2.2.2 388 2 = some (1 + (132 + 2 * t)) := by rw [E.2.1]; exact cx.f2
  have vB : ∀ i, i < n → v.2.1 11 i = B i := (cx.of E).fB
  have hte := kpTe_le (B := B) hp
  obtain ⟨k1, k2, k3, k4⟩ := ks_treaty t ht
  refine KC.of (ls := [_, _, _, _]) rfl rfl (Nat.le_of_ble_eq_true rfl) ?_
  refine kv_aload_n dX5_isWord_0 rfl ?_
  refine kw_gI dX5_isWord_1 fX5_29 hv (by first | rfl | assumption) rfl rfl ?_
  rw [g5]
  refine kv_aload_n dX5_isWord_4 rfl ?_
  refine kw_gI dX5_isWord_5 fX5_48 hv (by first | rfl | assumption) rfl rfl ?_
  rw [g4]
  refine kv_isub dX5_isWord_8 ?_
  rw [show (nI (kpTe B n s.1) - nI s.1 : Int32) = nI (kpTe B n s.1 - s.1) from kn_sub rfl rfl hte.1]
  refine kv_iconst dX5_isWord_9 3 ki_3 ?_
  refine kv_icmp_ne dX5_isWord_10 60 (by decide) (fun h1 => ?_) (fun h1 => ?_)
  · have hS : ¬ kpW3 B n s.1 a b c := fun q => h1 (by rw [q.1]; rfl)
    refine kv_iconst dX5_isWord_60 0 ki_0 ?_
    exact kv_zret dX5_isWord_61 rfl kv_z0 ⟨by first | rw [if_pos hS] | rw [if_neg hS], rfl⟩
  · have e3 : kpTe B n s.1 - s.1 = 3 := (nI_eq (b := 3) (by omega) (by omega)).mp h1
    refine kv_aload_n dX5_isWord_13 rfl ?_
    refine kw_gRh dX5_isWord_14 fX5_9 hv (by first | rfl | assumption) rfl rfl (by exact r0) ?_
    refine kv_aload_n dX5_isWord_17 rfl ?_
    refine kw_gI dX5_isWord_18 fX5_48 hv (by first | rfl | assumption) rfl rfl ?_
    rw [g4]
    refine kw_il dX5_isWord_21 hv (by first | rfl | assumption) (s.1) rfl (by omega) rfl ?_
    rw [vB _ (by omega)]
    refine kv_iload_n dX5_isWord_22 rfl ?_
    refine kv_icmp_ne dX5_isWord_23 60 (by decide) (fun h2 => ?_) (fun h2 => ?_)
    · have hS : ¬ kpW3 B n s.1 a b c := fun q => h2 q.2.1
      refine kv_iconst dX5_isWord_60 0 ki_0 ?_
      exact kv_zret dX5_isWord_61 rfl kv_z0 ⟨by first | rw [if_pos hS] | rw [if_neg hS], rfl⟩
    · refine kv_aload_n dX5_isWord_26 rfl ?_
      refine kw_gRh dX5_isWord_27 fX5_9 hv (by first | rfl | assumption) rfl rfl (by exact r0) ?_
      refine kv_aload_n dX5_isWord_30 rfl ?_
      refine kw_gI dX5_isWord_31 fX5_48 hv (by first | rfl | assumption) rfl rfl ?_
      rw [g4]
      refine kv_iconst dX5_isWord_34 1 ki_1 ?_
      refine kv_iadd dX5_isWord_35 ?_
      refine kw_il dX5_isWord_36 hv (by first | rfl | assumption) (s.1 + 1) (kn_add rfl (show (1 : Int32) = nI 1 from rfl)) (by omega) rfl ?_
      rw [vB _ (by omega)]
      refine kv_iload_n dX5_isWord_37 rfl ?_
      refine kv_icmp_ne dX5_isWord_38 60 (by decide) (fun h3 => ?_) (fun h3 => ?_)
      · have hS : ¬ kpW3 B n s.1 a b c := fun q => h3 q.2.2.1
        refine kv_iconst dX5_isWord_60 0 ki_0 ?_
        exact kv_zret dX5_isWord_61 rfl kv_z0 ⟨by first | rw [if_pos hS] | rw [if_neg hS], rfl⟩
      · refine kv_aload_n dX5_isWord_41 rfl ?_
        refine kw_gRh dX5_isWord_42 fX5_9 hv (by first | rfl | assumption) rfl rfl (by exact r0) ?_
        refine kv_aload_n dX5_isWord_45 rfl ?_
        refine kw_gI dX5_isWord_46 fX5_48 hv (by first | rfl | assumption) rfl rfl ?_
        rw [g4]
        refine kv_iconst dX5_isWord_49 2 ki_2 ?_
        refine kv_iadd dX5_isWord_50 ?_
        refine kw_il dX5_isWord_51 hv (by first | rfl | assumption) (s.1 + 2) (kn_add rfl (show (2 : Int32) = nI 2 from rfl)) (by omega) rfl ?_
        rw [vB _ (by omega)]
        refine kv_iload_n dX5_isWord_52 rfl ?_
        refine kv_icmp_ne dX5_isWord_53 60 (by decide) (fun h4 => ?_) (fun h4 => ?_)
        · have hS : ¬ kpW3 B n s.1 a b c := fun q => h4 q.2.2.2
          refine kv_iconst dX5_isWord_60 0 ki_0 ?_
          exact kv_zret dX5_isWord_61 rfl kv_z0 ⟨by first | rw [if_pos hS] | rw [if_neg hS], rfl⟩
        · have hS : kpW3 B n s.1 a b c := ⟨e3, h2, h3, h4⟩
          refine kv_iconst dX5_isWord_56 1 ki_1 ?_
          refine kv_goto dX5_isWord_57 61 (by decide) ?_
          exact kv_zret dX5_isWord_61 rfl kv_z1 ⟨by first | rw [if_pos hS] | rw [if_neg hS], rfl⟩

set_option maxRecDepth 20000 in
set_option maxHeartbeats 4000000 in
theorem qX5_number {w : KW} {l : Launch} {u : KMem} {t : Nat} {B : Nat → Int32} {n use : Nat} (cx : kpCx u t B n use) {v : KMem} {s : KPs} (hX : kpXs u t B n s v) (hlt : s.1 < n) (hd : kpDg (B s.1) = true) : KC w l mX5_number 2 0 0 [.ref 388] v (fun r z => r = none ∧ kpXr u t B n (kpNu B n s) z) := by
  have hu := cx.wd
  have ht := cx.ht
  have hn := cx.hn
  obtain ⟨E, g6, g4, g5, g3, gc, gs, hp, hsl⟩ := id hX
  have hv := E.wd hu
  have r0 : v.2.2.2 388 0 = some 11 := by rw [E.2.1]; exact cx.f0
  have r2 : v.2.2.2 388 2 = some (1 + (132 + 2 * t)) := by rw [E.2.1]; exact cx.f2
  have vB : ∀ i, i < n → v.2.1 11 i = B i := (cx.of E).fB
  have hte := kpTe_le (B := B) hp
  obtain ⟨k1, k2, k3, k4⟩ := ks_treaty t ht
  refine KC.of (ls := [_, _, _]) rfl rfl (Nat.le_of_ble_eq_true rfl) ?_
  refine kv_aload_n dX5_number_0 rfl ?_
  refine kw_gI dX5_number_1 fX5_29 hv (by first | rfl | assumption) rfl rfl ?_
  rw [g5]
  refine kv_aload_n dX5_number_4 rfl ?_
  refine kw_gI dX5_number_5 fX5_48 hv (by first | rfl | assumption) rfl rfl ?_
  rw [g4]
  refine kv_isub dX5_number_8 ?_
  rw [show (nI (kpTe B n s.1) - nI s.1 : Int32) = nI (kpTe B n s.1 - s.1) from kn_sub rfl rfl hte.1]
  refine kv_iconst dX5_number_9 4 ki_4 ?_
  refine kv_icmp_le dX5_number_10 18 (by decide) (fun h1 => ?_) (fun h1 => ?_)
  · have h4 : ¬ 4 < (kpTe B n s.1) - s.1 := fun q => absurd ((nI_leI (b := 4) (by omega) (by omega)).mp h1) (by omega)
    have hS : kpNu B n s = .ok (kpNx B n s.1, s.2 ++ [(kpVl B s.1 ((kpTe B n s.1) - s.1))]) := if_neg h4
    obtain ⟨m, hm, em⟩ := kpVl_b (B := B) (p := s.1) _ (by omega) (kpTe_dg hlt hd)
    have hm4 : 10 ^ ((kpTe B n s.1) - s.1) ≤ 10 ^ 4 := Nat.pow_le_pow_right (by decide) (by omega)
    have hen : kEnc (kpVl B s.1 ((kpTe B n s.1) - s.1)) = (kpVl B s.1 ((kpTe B n s.1) - s.1)) := by
      rw [em]
      exact if_pos (fun q => absurd ((nI_leI (a := 10000) (by omega) (by omega)).mp q) (by omega))
    refine kv_iconst dX5_number_18 0 ki_0 ?_
    refine kv_istore_n (ls2 := [_, _, _]) dX5_number_19 rfl rfl rfl rfl ?_
    refine kv_aload_n dX5_number_20 rfl ?_
    refine kw_gI dX5_number_21 fX5_48 hv (by first | rfl | assumption) rfl rfl ?_
    rw [g4]
    refine kv_istore_n (ls2 := [_, _, _]) dX5_number_24 rfl rfl rfl rfl ?_
    refine KV.loc (ls2 := [some (.ref 388), some (.int (kpVl B s.1 (0))), some (.int (nI (s.1 + (0))))]) ?_ (ksS rfl (ksS rfl (ksS rfl ksN)))
    refine kn_loop (P := fun i => KV w l mX5_number 2 0 0 25 [some (.ref 388), some (.int (kpVl B s.1 i)), some (.int (nI (s.1 + i)))] [] v (fun r z => r = none ∧ kpXr u t B n (kpNu B n s) z)) ((kpTe B n s.1) - s.1) ?_ (fun i hi ih => ?_)
    · refine kv_iload_n dX5_number_25 rfl ?_
      refine kv_aload_n dX5_number_26 rfl ?_
      refine kw_gI dX5_number_27 fX5_29 hv (by first | rfl | assumption) rfl rfl ?_
      rw [g5]
      refine kv_icmp_ge dX5_number_30 54 (by decide) (fun h2 => ?_) (fun h2 => ?_)
      · refine kv_aload_n dX5_number_54 rfl ?_
        refine kw_gRh dX5_number_55 fX5_25 hv (by first | rfl | assumption) rfl rfl (by exact r2) ?_
        refine kv_iload_n dX5_number_58 rfl ?_
        refine kw_Vv [_] mX9_push dX5_number_59 lX5_68 wX9_push kC9 hv rfl (by first | rfl | assumption) rfl rfl rfl (qX9_push_lt hv ht (c := s.2.length) (by omega) gc (kpVl B s.1 ((kpTe B n s.1) - s.1))) (by decide) ?_
        have xc : kpXc u t (s.2 ++ [(kpVl B s.1 ((kpTe B n s.1) - s.1))]) (kv_si (kv_si v (1 + (132 + 2 * t + 1)) s.2.length (kpVl B s.1 ((kpTe B n s.1) - s.1))) (1 + (132 + 2 * t)) 1 (nI (s.2.length + 1))) := hX.c.push ht hen
        have hv2 := xc.1.wd hu
        have y5 : (kv_si (kv_si v (1 + (132 + 2 * t + 1)) s.2.length (kpVl B s.1 ((kpTe B n s.1) - s.1))) (1 + (132 + 2 * t)) 1 (nI (s.2.length + 1))).2.1 388 5 = nI (kpTe B n s.1) := by rw [kv_si_n (by omega), kv_si_n (by omega)]; exact g5
        refine kv_aload_n dX5_number_62 rfl ?_
        refine kw_VQ [] mX5_step dX5_number_63 lX5_35 wX5_step kC5 hv2 rfl (by first | rfl | assumption) rfl rfl rfl (qX5_step (cx.of xc.1) (kpTe B n s.1) hte.2 y5) (by decide) (fun _ v1 q1 => ?_)
        obtain ⟨rfl, es, z4, z5, z3⟩ := q1
        have hvs := es.wd hv2
        exact kv_vret dX5_number_66 rfl (by rw [hS]; exact ⟨rfl, kpXs.next ht hlt xc (by rw [List.length_append, List.length_singleton]; omega) es z4 z5 z3⟩)
      · exact absurd (by rw [show s.1 + ((kpTe B n s.1) - s.1) = (kpTe B n s.1) by omega]; exact Int32.le_refl _) h2
    · refine kv_iload_n dX5_number_25 rfl ?_
      refine kv_aload_n dX5_number_26 rfl ?_
      refine kw_gI dX5_number_27 fX5_29 hv (by first | rfl | assumption) rfl rfl ?_
      rw [g5]
      refine kv_icmp_ge dX5_number_30 54 (by decide) (fun h3 => ?_) (fun h3 => ?_)
      · exact absurd h3 (fun z => by have := (nI_leI (by omega) (by omega)).mp z; omega)
      · refine kv_iload_n dX5_number_33 rfl ?_
        refine kv_bipush dX5_number_34 10 kb_10 ?_
        refine kv_imul dX5_number_36 ?_
        refine kv_aload_n dX5_number_37 rfl ?_
        refine kw_gRh dX5_number_38 fX5_9 hv (by first | rfl | assumption) rfl rfl (by exact r0) ?_
        refine kv_iload_n dX5_number_41 rfl ?_
        refine kw_il dX5_number_42 hv (by first | rfl | assumption) (_) rfl (by omega) rfl ?_
        rw [vB _ (by omega)]
        refine kv_iadd dX5_number_43 ?_
        refine kv_bipush dX5_number_44 48 kb_48 ?_
        refine kv_isub dX5_number_46 ?_
        refine kv_istore_n (ls2 := [_, _, _]) dX5_number_47 rfl rfl rfl rfl ?_
        refine kv_iinc (ls2 := [_, _, _]) dX5_number_48 (nI (s.1 + (i + 1))) rfl (by rw [← Nat.add_assoc]; exact kv_inc1 (s.1 + i)) rfl rfl rfl rfl ?_
        refine kv_goto dX5_number_51 25 (by decide) ?_
        exact KV.loc ih (ksS rfl (ksS rfl (ksS rfl ksN)))
  · have hS : kpNu B n s = .error s.1 := if_pos (Nat.lt_of_not_le (fun q => h1 (nI_le (b := 4) q (by omega))))
    refine kv_aload_n dX5_number_13 rfl ?_
    refine kw_VQ [] mX5_fail dX5_number_14 lX5_45 wX5_fail kC5 hv rfl (by first | rfl | assumption) rfl rfl rfl (qX5_fail_ok cx hX) (by decide) (fun _ v2 q2 => ?_)
    obtain ⟨rfl, xe⟩ := q2
    have hvs := xe.1.wd hu
    exact kv_vret dX5_number_17 rfl (by rw [hS]; exact ⟨rfl, xe⟩)

set_option maxRecDepth 20000 in
set_option maxHeartbeats 4000000 in
theorem qX5_name_0 {w : KW} {l : Launch} {u : KMem} {t : Nat} {B : Nat → Int32} {n : Nat} (cx : kpCx u t B n 0) {v : KMem} {s : KPs} (hX : kpXs u t B n s v) (hlt : s.1 < n) (hl : kpLr (B s.1) = true) : KC w l mX5_name 2 0 0 [.ref 388] v (fun r z => r = none ∧ kpXr u t B n (kpNa B n 0 s) z) := by
  have hu := cx.wd
  have ht := cx.ht
  have hn := cx.hn
  obtain ⟨E, g6, g4, g5, g3, gc, gs, hp, hsl⟩ := id hX
  have hv := E.wd hu
  have r0 : v.2.2.2 388 0 = some 11 := by rw [E.2.1]; exact cx.f0
  have r2 : v.2.2.2 388 2 = some (1 + (132 + 2 * t)) := by rw [E.2.1]; exact cx.f2
  have vB : ∀ i, i < n → v.2.1 11 i = B i := (cx.of E).fB
  have hte := kpTe_le (B := B) hp
  obtain ⟨k1, k2, k3, k4⟩ := ks_treaty t ht
  refine KC.of (ls := [_, _, _]) rfl rfl (Nat.le_of_ble_eq_true rfl) ?_
  refine kv_aload_n dX5_name_0 rfl ?_
  refine kw_gRh dX5_name_1 fX5_25 hv (by first | rfl | assumption) rfl rfl (by exact r2) ?_
  refine kw_gI dX5_name_4 fX5_90 hv (by first | rfl | assumption) rfl rfl ?_
  skip
  · rw [(cx.of E).fu, show nI 0 = 0 from rfl]
    refine kv_iconst dX5_name_7 4 ki_4 ?_
    refine kv_imul dX5_name_8 ?_
    rw [show ((0 : Int32) * 4) = 0 from rfl]
    refine kv_istore_n (ls2 := [_, _, _]) dX5_name_9 rfl rfl rfl rfl ?_
    refine kv_iconst dX5_name_10 0 ki_0 ?_
    refine kv_istore_n (ls2 := [_, _, _]) dX5_name_11 rfl rfl rfl rfl ?_
    refine kv_iload_n dX5_name_12 rfl ?_
    refine kv_iconst dX5_name_13 4 ki_4 ?_
    refine kv_icmp_ge dX5_name_14 80 (by decide) (fun h1 => ?_) (fun h1 => ?_)
    · exact absurd h1 (by decide)
    · refine kv_aload_n dX5_name_17 rfl ?_
      refine kw_gI dX5_name_18 fX5_29 hv (by first | rfl | assumption) rfl rfl ?_
      rw [g5]
      refine kv_aload_n dX5_name_21 rfl ?_
      refine kw_gI dX5_name_22 fX5_48 hv (by first | rfl | assumption) rfl rfl ?_
      rw [g4]
      refine kv_isub dX5_name_25 ?_
      rw [show (nI (kpTe B n s.1) - nI s.1 : Int32) = nI (kpTe B n s.1 - s.1) from kn_sub rfl rfl hte.1]
      refine kv_iconst dX5_name_26 1 ki_1 ?_
      refine kv_icmp_ne dX5_name_27 80 (by decide) (fun h2 => ?_) (fun h2 => ?_)
      · have hS : kpNa B n 0 s = .error s.1 := if_neg (fun q => h2 (by rw [q.1]; rfl))
        refine kv_aload_n dX5_name_80 rfl ?_
        refine kw_VQ [] mX5_fail dX5_name_81 lX5_45 wX5_fail kC5 hv rfl (by first | rfl | assumption) rfl rfl rfl (qX5_fail_ok cx hX) (by decide) (fun _ v2 q2 => ?_)
        obtain ⟨rfl, xe⟩ := q2
        have hvs := xe.1.wd hu
        exact kv_vret dX5_name_84 rfl (by rw [hS]; exact ⟨rfl, xe⟩)
      · have e1 : kpTe B n s.1 - s.1 = 1 := (nI_eq (b := 1) (by omega) (by omega)).mp h2
        refine kv_iload_n dX5_name_30 rfl ?_
        refine kv_iload_n dX5_name_31 rfl ?_
        refine kv_iadd dX5_name_32 ?_
        rw [show ((0 : Int32) + 0) = 0 from rfl]
        refine kv_getsN 3 dX5_name_33 rfl rfl (by decide +kernel) ?_
        refine kv_lenC dX5_name_36 rfl rfl ?_
        refine kv_icmp_ge dX5_name_37 80 (by decide) (fun h3 => ?_) (fun h3 => ?_)
        · exact absurd h3 (by decide)
        · refine kv_aload_n dX5_name_40 rfl ?_
          refine kw_gRh dX5_name_41 fX5_9 hv (by first | rfl | assumption) rfl rfl (by exact r0) ?_
          refine kv_aload_n dX5_name_44 rfl ?_
          refine kw_gI dX5_name_45 fX5_48 hv (by first | rfl | assumption) rfl rfl ?_
          rw [g4]
          refine kw_il dX5_name_48 hv (by first | rfl | assumption) (s.1) rfl (by omega) rfl ?_
          rw [vB _ hlt]
          refine kv_getsN 3 dX5_name_49 rfl rfl (by decide +kernel) ?_
          refine kv_iload_n dX5_name_52 rfl ?_
          refine kv_iload_n dX5_name_53 rfl ?_
          refine kv_iadd dX5_name_54 ?_
          rw [show ((0 : Int32) + 0) = 0 from rfl]
          refine kv_cldC (k := 0) dX5_name_55 rfl rfl rfl (show (0 : Int32) = nI 0 from rfl) (by decide) rfl ?_
          rw [show (([108, 109, 110, 118, 114, 101, 99, 0, 99, 107, 98, 0] : List Int32).getD 0 0) = 108 from rfl]
          refine kv_icmp_ne dX5_name_56 74 (by decide) (fun h4 => ?_) (fun h4 => ?_)
          · have x0 : ¬ B s.1 = 108 := h4
            refine kv_iinc (ls2 := [_, _, _]) dX5_name_74 (1 : Int32) rfl rfl rfl rfl rfl rfl ?_
            refine kv_goto dX5_name_77 12 (by decide) ?_
            refine kv_iload_n dX5_name_12 rfl ?_
            refine kv_iconst dX5_name_13 4 ki_4 ?_
            refine kv_icmp_ge dX5_name_14 80 (by decide) (fun h5 => ?_) (fun h5 => ?_)
            · exact absurd h5 (by decide)
            · refine kv_aload_n dX5_name_17 rfl ?_
              refine kw_gI dX5_name_18 fX5_29 hv (by first | rfl | assumption) rfl rfl ?_
              rw [g5]
              refine kv_aload_n dX5_name_21 rfl ?_
              refine kw_gI dX5_name_22 fX5_48 hv (by first | rfl | assumption) rfl rfl ?_
              rw [g4]
              refine kv_isub dX5_name_25 ?_
              rw [show (nI (kpTe B n s.1) - nI s.1 : Int32) = nI (kpTe B n s.1 - s.1) from kn_sub rfl rfl hte.1]
              refine kv_iconst dX5_name_26 1 ki_1 ?_
              refine kv_icmp_ne dX5_name_27 80 (by decide) (fun h6 => ?_) (fun h6 => ?_)
              · exact absurd (by rw [e1]; rfl) h6
              · have _e := e1
                refine kv_iload_n dX5_name_30 rfl ?_
                refine kv_iload_n dX5_name_31 rfl ?_
                refine kv_iadd dX5_name_32 ?_
                rw [show ((0 : Int32) + 1) = 1 from rfl]
                refine kv_getsN 3 dX5_name_33 rfl rfl (by decide +kernel) ?_
                refine kv_lenC dX5_name_36 rfl rfl ?_
                refine kv_icmp_ge dX5_name_37 80 (by decide) (fun h7 => ?_) (fun h7 => ?_)
                · exact absurd h7 (by decide)
                · refine kv_aload_n dX5_name_40 rfl ?_
                  refine kw_gRh dX5_name_41 fX5_9 hv (by first | rfl | assumption) rfl rfl (by exact r0) ?_
                  refine kv_aload_n dX5_name_44 rfl ?_
                  refine kw_gI dX5_name_45 fX5_48 hv (by first | rfl | assumption) rfl rfl ?_
                  rw [g4]
                  refine kw_il dX5_name_48 hv (by first | rfl | assumption) (s.1) rfl (by omega) rfl ?_
                  rw [vB _ hlt]
                  refine kv_getsN 3 dX5_name_49 rfl rfl (by decide +kernel) ?_
                  refine kv_iload_n dX5_name_52 rfl ?_
                  refine kv_iload_n dX5_name_53 rfl ?_
                  refine kv_iadd dX5_name_54 ?_
                  rw [show ((0 : Int32) + 1) = 1 from rfl]
                  refine kv_cldC (k := 1) dX5_name_55 rfl rfl rfl (show (1 : Int32) = nI 1 from rfl) (by decide) rfl ?_
                  rw [show (([108, 109, 110, 118, 114, 101, 99, 0, 99, 107, 98, 0] : List Int32).getD 1 0) = 109 from rfl]
                  refine kv_icmp_ne dX5_name_56 74 (by decide) (fun h8 => ?_) (fun h8 => ?_)
                  · have x1 : ¬ B s.1 = 109 := h8
                    refine kv_iinc (ls2 := [_, _, _]) dX5_name_74 (2 : Int32) rfl rfl rfl rfl rfl rfl ?_
                    refine kv_goto dX5_name_77 12 (by decide) ?_
                    refine kv_iload_n dX5_name_12 rfl ?_
                    refine kv_iconst dX5_name_13 4 ki_4 ?_
                    refine kv_icmp_ge dX5_name_14 80 (by decide) (fun h9 => ?_) (fun h9 => ?_)
                    · exact absurd h9 (by decide)
                    · refine kv_aload_n dX5_name_17 rfl ?_
                      refine kw_gI dX5_name_18 fX5_29 hv (by first | rfl | assumption) rfl rfl ?_
                      rw [g5]
                      refine kv_aload_n dX5_name_21 rfl ?_
                      refine kw_gI dX5_name_22 fX5_48 hv (by first | rfl | assumption) rfl rfl ?_
                      rw [g4]
                      refine kv_isub dX5_name_25 ?_
                      rw [show (nI (kpTe B n s.1) - nI s.1 : Int32) = nI (kpTe B n s.1 - s.1) from kn_sub rfl rfl hte.1]
                      refine kv_iconst dX5_name_26 1 ki_1 ?_
                      refine kv_icmp_ne dX5_name_27 80 (by decide) (fun h10 => ?_) (fun h10 => ?_)
                      · exact absurd (by rw [e1]; rfl) h10
                      · have _e := e1
                        refine kv_iload_n dX5_name_30 rfl ?_
                        refine kv_iload_n dX5_name_31 rfl ?_
                        refine kv_iadd dX5_name_32 ?_
                        rw [show ((0 : Int32) + 2) = 2 from rfl]
                        refine kv_getsN 3 dX5_name_33 rfl rfl (by decide +kernel) ?_
                        refine kv_lenC dX5_name_36 rfl rfl ?_
                        refine kv_icmp_ge dX5_name_37 80 (by decide) (fun h11 => ?_) (fun h11 => ?_)
                        · exact absurd h11 (by decide)
                        · refine kv_aload_n dX5_name_40 rfl ?_
                          refine kw_gRh dX5_name_41 fX5_9 hv (by first | rfl | assumption) rfl rfl (by exact r0) ?_
                          refine kv_aload_n dX5_name_44 rfl ?_
                          refine kw_gI dX5_name_45 fX5_48 hv (by first | rfl | assumption) rfl rfl ?_
                          rw [g4]
                          refine kw_il dX5_name_48 hv (by first | rfl | assumption) (s.1) rfl (by omega) rfl ?_
                          rw [vB _ hlt]
                          refine kv_getsN 3 dX5_name_49 rfl rfl (by decide +kernel) ?_
                          refine kv_iload_n dX5_name_52 rfl ?_
                          refine kv_iload_n dX5_name_53 rfl ?_
                          refine kv_iadd dX5_name_54 ?_
                          rw [show ((0 : Int32) + 2) = 2 from rfl]
                          refine kv_cldC (k := 2) dX5_name_55 rfl rfl rfl (show (2 : Int32) = nI 2 from rfl) (by decide) rfl ?_
                          rw [show (([108, 109, 110, 118, 114, 101, 99, 0, 99, 107, 98, 0] : List Int32).getD 2 0) = 110 from rfl]
                          refine kv_icmp_ne dX5_name_56 74 (by decide) (fun h12 => ?_) (fun h12 => ?_)
                          · have x2 : ¬ B s.1 = 110 := h12
                            refine kv_iinc (ls2 := [_, _, _]) dX5_name_74 (3 : Int32) rfl rfl rfl rfl rfl rfl ?_
                            refine kv_goto dX5_name_77 12 (by decide) ?_
                            refine kv_iload_n dX5_name_12 rfl ?_
                            refine kv_iconst dX5_name_13 4 ki_4 ?_
                            refine kv_icmp_ge dX5_name_14 80 (by decide) (fun h13 => ?_) (fun h13 => ?_)
                            · exact absurd h13 (by decide)
                            · refine kv_aload_n dX5_name_17 rfl ?_
                              refine kw_gI dX5_name_18 fX5_29 hv (by first | rfl | assumption) rfl rfl ?_
                              rw [g5]
                              refine kv_aload_n dX5_name_21 rfl ?_
                              refine kw_gI dX5_name_22 fX5_48 hv (by first | rfl | assumption) rfl rfl ?_
                              rw [g4]
                              refine kv_isub dX5_name_25 ?_
                              rw [show (nI (kpTe B n s.1) - nI s.1 : Int32) = nI (kpTe B n s.1 - s.1) from kn_sub rfl rfl hte.1]
                              refine kv_iconst dX5_name_26 1 ki_1 ?_
                              refine kv_icmp_ne dX5_name_27 80 (by decide) (fun h14 => ?_) (fun h14 => ?_)
                              · exact absurd (by rw [e1]; rfl) h14
                              · have _e := e1
                                refine kv_iload_n dX5_name_30 rfl ?_
                                refine kv_iload_n dX5_name_31 rfl ?_
                                refine kv_iadd dX5_name_32 ?_
                                rw [show ((0 : Int32) + 3) = 3 from rfl]
                                refine kv_getsN 3 dX5_name_33 rfl rfl (by decide +kernel) ?_
                                refine kv_lenC dX5_name_36 rfl rfl ?_
                                refine kv_icmp_ge dX5_name_37 80 (by decide) (fun h15 => ?_) (fun h15 => ?_)
                                · exact absurd h15 (by decide)
                                · refine kv_aload_n dX5_name_40 rfl ?_
                                  refine kw_gRh dX5_name_41 fX5_9 hv (by first | rfl | assumption) rfl rfl (by exact r0) ?_
                                  refine kv_aload_n dX5_name_44 rfl ?_
                                  refine kw_gI dX5_name_45 fX5_48 hv (by first | rfl | assumption) rfl rfl ?_
                                  rw [g4]
                                  refine kw_il dX5_name_48 hv (by first | rfl | assumption) (s.1) rfl (by omega) rfl ?_
                                  rw [vB _ hlt]
                                  refine kv_getsN 3 dX5_name_49 rfl rfl (by decide +kernel) ?_
                                  refine kv_iload_n dX5_name_52 rfl ?_
                                  refine kv_iload_n dX5_name_53 rfl ?_
                                  refine kv_iadd dX5_name_54 ?_
                                  rw [show ((0 : Int32) + 3) = 3 from rfl]
                                  refine kv_cldC (k := 3) dX5_name_55 rfl rfl rfl (show (3 : Int32) = nI 3 from rfl) (by decide) rfl ?_
                                  rw [show (([108, 109, 110, 118, 114, 101, 99, 0, 99, 107, 98, 0] : List Int32).getD 3 0) = 118 from rfl]
                                  refine kv_icmp_ne dX5_name_56 74 (by decide) (fun h16 => ?_) (fun h16 => ?_)
                                  · have x3 : ¬ B s.1 = 118 := h16
                                    have hS : kpNa B n 0 s = .error s.1 := if_neg (fun q => q.2 (by simp only [kpNm, x0, x1, x2, x3, ↓reduceIte, Nat.succ_ne_zero, Nat.reduceEqDiff, Nat.one_ne_zero, Nat.succ_ne_self, reduceCtorEq]))
                                    refine kv_iinc (ls2 := [_, _, _]) dX5_name_74 (4 : Int32) rfl rfl rfl rfl rfl rfl ?_
                                    refine kv_goto dX5_name_77 12 (by decide) ?_
                                    refine kv_iload_n dX5_name_12 rfl ?_
                                    refine kv_iconst dX5_name_13 4 ki_4 ?_
                                    refine kv_icmp_ge dX5_name_14 80 (by decide) (fun h17 => ?_) (fun h17 => ?_)
                                    · refine kv_aload_n dX5_name_80 rfl ?_
                                      refine kw_VQ [] mX5_fail dX5_name_81 lX5_45 wX5_fail kC5 hv rfl (by first | rfl | assumption) rfl rfl rfl (qX5_fail_ok cx hX) (by decide) (fun _ v2 q2 => ?_)
                                      obtain ⟨rfl, xe⟩ := q2
                                      have hvs := xe.1.wd hu
                                      exact kv_vret dX5_name_84 rfl (by rw [hS]; exact ⟨rfl, xe⟩)
                                    · exact absurd h17 (by decide)
                                  · have x3 : B s.1 = 118 := h16
                                    have nmv : kpNm 0 (B s.1) = 10003 := by rw [x3]; decide
                                    have hS : kpNa B n 0 s = .ok (kpNx B n s.1, s.2 ++ [kpNm 0 (B s.1)]) := if_pos ⟨e1, by rw [nmv]; decide⟩
                                    have hen : kEnc (kpNm 0 (B s.1)) = -4 := by rw [nmv]; decide
                                    have pn := qX9_push_lt (w := w) (l := l) hv ht (c := s.2.length) (by omega) gc (-4)
                                    have xc := hX.c.push ht hen
                                    have hv2 := xc.1.wd hu
                                    have y5 : (kv_si (kv_si v (1 + (132 + 2 * t + 1)) s.2.length (-4)) (1 + (132 + 2 * t)) 1 (nI (s.2.length + 1))).2.1 388 5 = nI (kpTe B n s.1) := by rw [kv_si_n (by omega), kv_si_n (by omega)]; exact g5
                                    refine kv_aload_n dX5_name_59 rfl ?_
                                    refine kw_gRh dX5_name_60 fX5_25 hv (by first | rfl | assumption) rfl rfl (by exact r2) ?_
                                    refine kv_iconst dX5_name_63 (-1) ki_m1 ?_
                                    refine kv_iload_n dX5_name_64 rfl ?_
                                    refine kv_isub dX5_name_65 ?_
                                    rw [show (((-1) : Int32) - 3) = (-4) from rfl]
                                    refine kw_Vv [_] mX9_push dX5_name_66 lX5_68 wX9_push kC9 hv rfl (by first | rfl | assumption) rfl rfl rfl pn (by decide) ?_
                                    have _p := pn
                                    refine kv_aload_n dX5_name_69 rfl ?_
                                    refine kw_VQ [] mX5_step dX5_name_70 lX5_35 wX5_step kC5 hv2 rfl (by first | rfl | assumption) rfl rfl rfl (qX5_step (cx.of xc.1) (kpTe B n s.1) hte.2 y5) (by decide) (fun _ v1 q1 => ?_)
                                    obtain ⟨rfl, es, z4, z5, z3⟩ := q1
                                    have hvs := es.wd hv2
                                    exact kv_vret dX5_name_73 rfl (by rw [hS]; exact ⟨rfl, kpXs.next ht hlt xc (by rw [List.length_append, List.length_singleton]; omega) es z4 z5 z3⟩)
                          · have x2 : B s.1 = 110 := h12
                            have nmv : kpNm 0 (B s.1) = 10002 := by rw [x2]; decide
                            have hS : kpNa B n 0 s = .ok (kpNx B n s.1, s.2 ++ [kpNm 0 (B s.1)]) := if_pos ⟨e1, by rw [nmv]; decide⟩
                            have hen : kEnc (kpNm 0 (B s.1)) = -3 := by rw [nmv]; decide
                            have pn := qX9_push_lt (w := w) (l := l) hv ht (c := s.2.length) (by omega) gc (-3)
                            have xc := hX.c.push ht hen
                            have hv2 := xc.1.wd hu
                            have y5 : (kv_si (kv_si v (1 + (132 + 2 * t + 1)) s.2.length (-3)) (1 + (132 + 2 * t)) 1 (nI (s.2.length + 1))).2.1 388 5 = nI (kpTe B n s.1) := by rw [kv_si_n (by omega), kv_si_n (by omega)]; exact g5
                            refine kv_aload_n dX5_name_59 rfl ?_
                            refine kw_gRh dX5_name_60 fX5_25 hv (by first | rfl | assumption) rfl rfl (by exact r2) ?_
                            refine kv_iconst dX5_name_63 (-1) ki_m1 ?_
                            refine kv_iload_n dX5_name_64 rfl ?_
                            refine kv_isub dX5_name_65 ?_
                            rw [show (((-1) : Int32) - 2) = (-3) from rfl]
                            refine kw_Vv [_] mX9_push dX5_name_66 lX5_68 wX9_push kC9 hv rfl (by first | rfl | assumption) rfl rfl rfl pn (by decide) ?_
                            have _p := pn
                            refine kv_aload_n dX5_name_69 rfl ?_
                            refine kw_VQ [] mX5_step dX5_name_70 lX5_35 wX5_step kC5 hv2 rfl (by first | rfl | assumption) rfl rfl rfl (qX5_step (cx.of xc.1) (kpTe B n s.1) hte.2 y5) (by decide) (fun _ v1 q1 => ?_)
                            obtain ⟨rfl, es, z4, z5, z3⟩ := q1
                            have hvs := es.wd hv2
                            exact kv_vret dX5_name_73 rfl (by rw [hS]; exact ⟨rfl, kpXs.next ht hlt xc (by rw [List.length_append, List.length_singleton]; omega) es z4 z5 z3⟩)
                  · have x1 : B s.1 = 109 := h8
                    have nmv : kpNm 0 (B s.1) = 10001 := by rw [x1]; decide
                    have hS : kpNa B n 0 s = .ok (kpNx B n s.1, s.2 ++ [kpNm 0 (B s.1)]) := if_pos ⟨e1, by rw [nmv]; decide⟩
                    have hen : kEnc (kpNm 0 (B s.1)) = -2 := by rw [nmv]; decide
                    have pn := qX9_push_lt (w := w) (l := l) hv ht (c := s.2.length) (by omega) gc (-2)
                    have xc := hX.c.push ht hen
                    have hv2 := xc.1.wd hu
                    have y5 : (kv_si (kv_si v (1 + (132 + 2 * t + 1)) s.2.length (-2)) (1 + (132 + 2 * t)) 1 (nI (s.2.length + 1))).2.1 388 5 = nI (kpTe B n s.1) := by rw [kv_si_n (by omega), kv_si_n (by omega)]; exact g5
                    refine kv_aload_n dX5_name_59 rfl ?_
                    refine kw_gRh dX5_name_60 fX5_25 hv (by first | rfl | assumption) rfl rfl (by exact r2) ?_
                    refine kv_iconst dX5_name_63 (-1) ki_m1 ?_
                    refine kv_iload_n dX5_name_64 rfl ?_
                    refine kv_isub dX5_name_65 ?_
                    rw [show (((-1) : Int32) - 1) = (-2) from rfl]
                    refine kw_Vv [_] mX9_push dX5_name_66 lX5_68 wX9_push kC9 hv rfl (by first | rfl | assumption) rfl rfl rfl pn (by decide) ?_
                    have _p := pn
                    refine kv_aload_n dX5_name_69 rfl ?_
                    refine kw_VQ [] mX5_step dX5_name_70 lX5_35 wX5_step kC5 hv2 rfl (by first | rfl | assumption) rfl rfl rfl (qX5_step (cx.of xc.1) (kpTe B n s.1) hte.2 y5) (by decide) (fun _ v1 q1 => ?_)
                    obtain ⟨rfl, es, z4, z5, z3⟩ := q1
                    have hvs := es.wd hv2
                    exact kv_vret dX5_name_73 rfl (by rw [hS]; exact ⟨rfl, kpXs.next ht hlt xc (by rw [List.length_append, List.length_singleton]; omega) es z4 z5 z3⟩)
          · have x0 : B s.1 = 108 := h4
            have nmv : kpNm 0 (B s.1) = 10000 := by rw [x0]; decide
            have hS : kpNa B n 0 s = .ok (kpNx B n s.1, s.2 ++ [kpNm 0 (B s.1)]) := if_pos ⟨e1, by rw [nmv]; decide⟩
            have hen : kEnc (kpNm 0 (B s.1)) = -1 := by rw [nmv]; decide
            have pn := qX9_push_lt (w := w) (l := l) hv ht (c := s.2.length) (by omega) gc (-1)
            have xc := hX.c.push ht hen
            have hv2 := xc.1.wd hu
            have y5 : (kv_si (kv_si v (1 + (132 + 2 * t + 1)) s.2.length (-1)) (1 + (132 + 2 * t)) 1 (nI (s.2.length + 1))).2.1 388 5 = nI (kpTe B n s.1) := by rw [kv_si_n (by omega), kv_si_n (by omega)]; exact g5
            refine kv_aload_n dX5_name_59 rfl ?_
            refine kw_gRh dX5_name_60 fX5_25 hv (by first | rfl | assumption) rfl rfl (by exact r2) ?_
            refine kv_iconst dX5_name_63 (-1) ki_m1 ?_
            refine kv_iload_n dX5_name_64 rfl ?_
            refine kv_isub dX5_name_65 ?_
            rw [show (((-1) : Int32) - 0) = (-1) from rfl]
            refine kw_Vv [_] mX9_push dX5_name_66 lX5_68 wX9_push kC9 hv rfl (by first | rfl | assumption) rfl rfl rfl pn (by decide) ?_
            have _p := pn
            refine kv_aload_n dX5_name_69 rfl ?_
            refine kw_VQ [] mX5_step dX5_name_70 lX5_35 wX5_step kC5 hv2 rfl (by first | rfl | assumption) rfl rfl rfl (qX5_step (cx.of xc.1) (kpTe B n s.1) hte.2 y5) (by decide) (fun _ v1 q1 => ?_)
            obtain ⟨rfl, es, z4, z5, z3⟩ := q1
            have hvs := es.wd hv2
            exact kv_vret dX5_name_73 rfl (by rw [hS]; exact ⟨rfl, kpXs.next ht hlt xc (by rw [List.length_append, List.length_singleton]; omega) es z4 z5 z3⟩)

set_option maxRecDepth 20000 in
set_option maxHeartbeats 4000000 in
theorem qX5_name_1 {w : KW} {l : Launch} {u : KMem} {t : Nat} {B : Nat → Int32} {n : Nat} (cx : kpCx u t B n 1) {v : KMem} {s : KPs} (hX : kpXs u t B n s v) (hlt : s.1 < n) (hl : kpLr (B s.1) = true) : KC w l mX5_name 2 0 0 [.ref 388] v (fun r z => r = none ∧ kpXr u t B n (kpNa B n 1 s) z) := by
  have hu := cx.wd
  have ht := cx.ht
  have hn := cx.hn
  obtain ⟨E, g6, g4, g5, g3, gc, gs, hp, hsl⟩ := id hX
  have hv := E.wd hu
  have r0 : v.2.2.2 388 0 = some 11 := by rw [E.2.1]; exact cx.f0
  have r2 : v.2.2.2 388 2 = some (1 + (132 + 2 * t)) := by rw [E.2.1]; exact cx.f2
  have vB : ∀ i, i < n → v.2.1 11 i = B i := (cx.of E).fB
  have hte := kpTe_le (B := B) hp
  obtain ⟨k1, k2, k3, k4⟩ := ks_treaty t ht
  refine KC.of (ls := [_, _, _]) rfl rfl (Nat.le_of_ble_eq_true rfl) ?_
  refine kv_aload_n dX5_name_0 rfl ?_
  refine kw_gRh dX5_name_1 fX5_25 hv (by first | rfl | assumption) rfl rfl (by exact r2) ?_
  refine kw_gI dX5_name_4 fX5_90 hv (by first | rfl | assumption) rfl rfl ?_
  skip
  · rw [(cx.of E).fu, show nI 1 = 1 from rfl]
    refine kv_iconst dX5_name_7 4 ki_4 ?_
    refine kv_imul dX5_name_8 ?_
    rw [show ((1 : Int32) * 4) = 4 from rfl]
    refine kv_istore_n (ls2 := [_, _, _]) dX5_name_9 rfl rfl rfl rfl ?_
    refine kv_iconst dX5_name_10 0 ki_0 ?_
    refine kv_istore_n (ls2 := [_, _, _]) dX5_name_11 rfl rfl rfl rfl ?_
    refine kv_iload_n dX5_name_12 rfl ?_
    refine kv_iconst dX5_name_13 4 ki_4 ?_
    refine kv_icmp_ge dX5_name_14 80 (by decide) (fun h1 => ?_) (fun h1 => ?_)
    · exact absurd h1 (by decide)
    · refine kv_aload_n dX5_name_17 rfl ?_
      refine kw_gI dX5_name_18 fX5_29 hv (by first | rfl | assumption) rfl rfl ?_
      rw [g5]
      refine kv_aload_n dX5_name_21 rfl ?_
      refine kw_gI dX5_name_22 fX5_48 hv (by first | rfl | assumption) rfl rfl ?_
      rw [g4]
      refine kv_isub dX5_name_25 ?_
      rw [show (nI (kpTe B n s.1) - nI s.1 : Int32) = nI (kpTe B n s.1 - s.1) from kn_sub rfl rfl hte.1]
      refine kv_iconst dX5_name_26 1 ki_1 ?_
      refine kv_icmp_ne dX5_name_27 80 (by decide) (fun h2 => ?_) (fun h2 => ?_)
      · have hS : kpNa B n 1 s = .error s.1 := if_neg (fun q => h2 (by rw [q.1]; rfl))
        refine kv_aload_n dX5_name_80 rfl ?_
        refine kw_VQ [] mX5_fail dX5_name_81 lX5_45 wX5_fail kC5 hv rfl (by first | rfl | assumption) rfl rfl rfl (qX5_fail_ok cx hX) (by decide) (fun _ v2 q2 => ?_)
        obtain ⟨rfl, xe⟩ := q2
        have hvs := xe.1.wd hu
        exact kv_vret dX5_name_84 rfl (by rw [hS]; exact ⟨rfl, xe⟩)
      · have e1 : kpTe B n s.1 - s.1 = 1 := (nI_eq (b := 1) (by omega) (by omega)).mp h2
        refine kv_iload_n dX5_name_30 rfl ?_
        refine kv_iload_n dX5_name_31 rfl ?_
        refine kv_iadd dX5_name_32 ?_
        rw [show ((4 : Int32) + 0) = 4 from rfl]
        refine kv_getsN 3 dX5_name_33 rfl rfl (by decide +kernel) ?_
        refine kv_lenC dX5_name_36 rfl rfl ?_
        refine kv_icmp_ge dX5_name_37 80 (by decide) (fun h3 => ?_) (fun h3 => ?_)
        · exact absurd h3 (by decide)
        · refine kv_aload_n dX5_name_40 rfl ?_
          refine kw_gRh dX5_name_41 fX5_9 hv (by first | rfl | assumption) rfl rfl (by exact r0) ?_
          refine kv_aload_n dX5_name_44 rfl ?_
          refine kw_gI dX5_name_45 fX5_48 hv (by first | rfl | assumption) rfl rfl ?_
          rw [g4]
          refine kw_il dX5_name_48 hv (by first | rfl | assumption) (s.1) rfl (by omega) rfl ?_
          rw [vB _ hlt]
          refine kv_getsN 3 dX5_name_49 rfl rfl (by decide +kernel) ?_
          refine kv_iload_n dX5_name_52 rfl ?_
          refine kv_iload_n dX5_name_53 rfl ?_
          refine kv_iadd dX5_name_54 ?_
          rw [show ((4 : Int32) + 0) = 4 from rfl]
          refine kv_cldC (k := 4) dX5_name_55 rfl rfl rfl (show (4 : Int32) = nI 4 from rfl) (by decide) rfl ?_
          rw [show (([108, 109, 110, 118, 114, 101, 99, 0, 99, 107, 98, 0] : List Int32).getD 4 0) = 114 from rfl]
          refine kv_icmp_ne dX5_name_56 74 (by decide) (fun h4 => ?_) (fun h4 => ?_)
          · have x0 : ¬ B s.1 = 114 := h4
            refine kv_iinc (ls2 := [_, _, _]) dX5_name_74 (1 : Int32) rfl rfl rfl rfl rfl rfl ?_
            refine kv_goto dX5_name_77 12 (by decide) ?_
            refine kv_iload_n dX5_name_12 rfl ?_
            refine kv_iconst dX5_name_13 4 ki_4 ?_
            refine kv_icmp_ge dX5_name_14 80 (by decide) (fun h5 => ?_) (fun h5 => ?_)
            · exact absurd h5 (by decide)
            · refine kv_aload_n dX5_name_17 rfl ?_
              refine kw_gI dX5_name_18 fX5_29 hv (by first | rfl | assumption) rfl rfl ?_
              rw [g5]
              refine kv_aload_n dX5_name_21 rfl ?_
              refine kw_gI dX5_name_22 fX5_48 hv (by first | rfl | assumption) rfl rfl ?_
              rw [g4]
              refine kv_isub dX5_name_25 ?_
              rw [show (nI (kpTe B n s.1) - nI s.1 : Int32) = nI (kpTe B n s.1 - s.1) from kn_sub rfl rfl hte.1]
              refine kv_iconst dX5_name_26 1 ki_1 ?_
              refine kv_icmp_ne dX5_name_27 80 (by decide) (fun h6 => ?_) (fun h6 => ?_)
              · exact absurd (by rw [e1]; rfl) h6
              · have _e := e1
                refine kv_iload_n dX5_name_30 rfl ?_
                refine kv_iload_n dX5_name_31 rfl ?_
                refine kv_iadd dX5_name_32 ?_
                rw [show ((4 : Int32) + 1) = 5 from rfl]
                refine kv_getsN 3 dX5_name_33 rfl rfl (by decide +kernel) ?_
                refine kv_lenC dX5_name_36 rfl rfl ?_
                refine kv_icmp_ge dX5_name_37 80 (by decide) (fun h7 => ?_) (fun h7 => ?_)
                · exact absurd h7 (by decide)
                · refine kv_aload_n dX5_name_40 rfl ?_
                  refine kw_gRh dX5_name_41 fX5_9 hv (by first | rfl | assumption) rfl rfl (by exact r0) ?_
                  refine kv_aload_n dX5_name_44 rfl ?_
                  refine kw_gI dX5_name_45 fX5_48 hv (by first | rfl | assumption) rfl rfl ?_
                  rw [g4]
                  refine kw_il dX5_name_48 hv (by first | rfl | assumption) (s.1) rfl (by omega) rfl ?_
                  rw [vB _ hlt]
                  refine kv_getsN 3 dX5_name_49 rfl rfl (by decide +kernel) ?_
                  refine kv_iload_n dX5_name_52 rfl ?_
                  refine kv_iload_n dX5_name_53 rfl ?_
                  refine kv_iadd dX5_name_54 ?_
                  rw [show ((4 : Int32) + 1) = 5 from rfl]
                  refine kv_cldC (k := 5) dX5_name_55 rfl rfl rfl (show (5 : Int32) = nI 5 from rfl) (by decide) rfl ?_
                  rw [show (([108, 109, 110, 118, 114, 101, 99, 0, 99, 107, 98, 0] : List Int32).getD 5 0) = 101 from rfl]
                  refine kv_icmp_ne dX5_name_56 74 (by decide) (fun h8 => ?_) (fun h8 => ?_)
                  · have x1 : ¬ B s.1 = 101 := h8
                    refine kv_iinc (ls2 := [_, _, _]) dX5_name_74 (2 : Int32) rfl rfl rfl rfl rfl rfl ?_
                    refine kv_goto dX5_name_77 12 (by decide) ?_
                    refine kv_iload_n dX5_name_12 rfl ?_
                    refine kv_iconst dX5_name_13 4 ki_4 ?_
                    refine kv_icmp_ge dX5_name_14 80 (by decide) (fun h9 => ?_) (fun h9 => ?_)
                    · exact absurd h9 (by decide)
                    · refine kv_aload_n dX5_name_17 rfl ?_
                      refine kw_gI dX5_name_18 fX5_29 hv (by first | rfl | assumption) rfl rfl ?_
                      rw [g5]
                      refine kv_aload_n dX5_name_21 rfl ?_
                      refine kw_gI dX5_name_22 fX5_48 hv (by first | rfl | assumption) rfl rfl ?_
                      rw [g4]
                      refine kv_isub dX5_name_25 ?_
                      rw [show (nI (kpTe B n s.1) - nI s.1 : Int32) = nI (kpTe B n s.1 - s.1) from kn_sub rfl rfl hte.1]
                      refine kv_iconst dX5_name_26 1 ki_1 ?_
                      refine kv_icmp_ne dX5_name_27 80 (by decide) (fun h10 => ?_) (fun h10 => ?_)
                      · exact absurd (by rw [e1]; rfl) h10
                      · have _e := e1
                        refine kv_iload_n dX5_name_30 rfl ?_
                        refine kv_iload_n dX5_name_31 rfl ?_
                        refine kv_iadd dX5_name_32 ?_
                        rw [show ((4 : Int32) + 2) = 6 from rfl]
                        refine kv_getsN 3 dX5_name_33 rfl rfl (by decide +kernel) ?_
                        refine kv_lenC dX5_name_36 rfl rfl ?_
                        refine kv_icmp_ge dX5_name_37 80 (by decide) (fun h11 => ?_) (fun h11 => ?_)
                        · exact absurd h11 (by decide)
                        · refine kv_aload_n dX5_name_40 rfl ?_
                          refine kw_gRh dX5_name_41 fX5_9 hv (by first | rfl | assumption) rfl rfl (by exact r0) ?_
                          refine kv_aload_n dX5_name_44 rfl ?_
                          refine kw_gI dX5_name_45 fX5_48 hv (by first | rfl | assumption) rfl rfl ?_
                          rw [g4]
                          refine kw_il dX5_name_48 hv (by first | rfl | assumption) (s.1) rfl (by omega) rfl ?_
                          rw [vB _ hlt]
                          refine kv_getsN 3 dX5_name_49 rfl rfl (by decide +kernel) ?_
                          refine kv_iload_n dX5_name_52 rfl ?_
                          refine kv_iload_n dX5_name_53 rfl ?_
                          refine kv_iadd dX5_name_54 ?_
                          rw [show ((4 : Int32) + 2) = 6 from rfl]
                          refine kv_cldC (k := 6) dX5_name_55 rfl rfl rfl (show (6 : Int32) = nI 6 from rfl) (by decide) rfl ?_
                          rw [show (([108, 109, 110, 118, 114, 101, 99, 0, 99, 107, 98, 0] : List Int32).getD 6 0) = 99 from rfl]
                          refine kv_icmp_ne dX5_name_56 74 (by decide) (fun h12 => ?_) (fun h12 => ?_)
                          · have x2 : ¬ B s.1 = 99 := h12
                            refine kv_iinc (ls2 := [_, _, _]) dX5_name_74 (3 : Int32) rfl rfl rfl rfl rfl rfl ?_
                            refine kv_goto dX5_name_77 12 (by decide) ?_
                            refine kv_iload_n dX5_name_12 rfl ?_
                            refine kv_iconst dX5_name_13 4 ki_4 ?_
                            refine kv_icmp_ge dX5_name_14 80 (by decide) (fun h13 => ?_) (fun h13 => ?_)
                            · exact absurd h13 (by decide)
                            · refine kv_aload_n dX5_name_17 rfl ?_
                              refine kw_gI dX5_name_18 fX5_29 hv (by first | rfl | assumption) rfl rfl ?_
                              rw [g5]
                              refine kv_aload_n dX5_name_21 rfl ?_
                              refine kw_gI dX5_name_22 fX5_48 hv (by first | rfl | assumption) rfl rfl ?_
                              rw [g4]
                              refine kv_isub dX5_name_25 ?_
                              rw [show (nI (kpTe B n s.1) - nI s.1 : Int32) = nI (kpTe B n s.1 - s.1) from kn_sub rfl rfl hte.1]
                              refine kv_iconst dX5_name_26 1 ki_1 ?_
                              refine kv_icmp_ne dX5_name_27 80 (by decide) (fun h14 => ?_) (fun h14 => ?_)
                              · exact absurd (by rw [e1]; rfl) h14
                              · have _e := e1
                                refine kv_iload_n dX5_name_30 rfl ?_
                                refine kv_iload_n dX5_name_31 rfl ?_
                                refine kv_iadd dX5_name_32 ?_
                                rw [show ((4 : Int32) + 3) = 7 from rfl]
                                refine kv_getsN 3 dX5_name_33 rfl rfl (by decide +kernel) ?_
                                refine kv_lenC dX5_name_36 rfl rfl ?_
                                refine kv_icmp_ge dX5_name_37 80 (by decide) (fun h15 => ?_) (fun h15 => ?_)
                                · exact absurd h15 (by decide)
                                · refine kv_aload_n dX5_name_40 rfl ?_
                                  refine kw_gRh dX5_name_41 fX5_9 hv (by first | rfl | assumption) rfl rfl (by exact r0) ?_
                                  refine kv_aload_n dX5_name_44 rfl ?_
                                  refine kw_gI dX5_name_45 fX5_48 hv (by first | rfl | assumption) rfl rfl ?_
                                  rw [g4]
                                  refine kw_il dX5_name_48 hv (by first | rfl | assumption) (s.1) rfl (by omega) rfl ?_
                                  rw [vB _ hlt]
                                  refine kv_getsN 3 dX5_name_49 rfl rfl (by decide +kernel) ?_
                                  refine kv_iload_n dX5_name_52 rfl ?_
                                  refine kv_iload_n dX5_name_53 rfl ?_
                                  refine kv_iadd dX5_name_54 ?_
                                  rw [show ((4 : Int32) + 3) = 7 from rfl]
                                  refine kv_cldC (k := 7) dX5_name_55 rfl rfl rfl (show (7 : Int32) = nI 7 from rfl) (by decide) rfl ?_
                                  rw [show (([108, 109, 110, 118, 114, 101, 99, 0, 99, 107, 98, 0] : List Int32).getD 7 0) = 0 from rfl]
                                  refine kv_icmp_ne dX5_name_56 74 (by decide) (fun h16 => ?_) (fun h16 => ?_)
                                  · have x3 : ¬ B s.1 = 0 := h16
                                    have hS : kpNa B n 1 s = .error s.1 := if_neg (fun q => q.2 (by simp only [kpNm, x0, x1, x2, x3, ↓reduceIte, Nat.succ_ne_zero, Nat.reduceEqDiff, Nat.one_ne_zero, Nat.succ_ne_self, reduceCtorEq]))
                                    refine kv_iinc (ls2 := [_, _, _]) dX5_name_74 (4 : Int32) rfl rfl rfl rfl rfl rfl ?_
                                    refine kv_goto dX5_name_77 12 (by decide) ?_
                                    refine kv_iload_n dX5_name_12 rfl ?_
                                    refine kv_iconst dX5_name_13 4 ki_4 ?_
                                    refine kv_icmp_ge dX5_name_14 80 (by decide) (fun h17 => ?_) (fun h17 => ?_)
                                    · refine kv_aload_n dX5_name_80 rfl ?_
                                      refine kw_VQ [] mX5_fail dX5_name_81 lX5_45 wX5_fail kC5 hv rfl (by first | rfl | assumption) rfl rfl rfl (qX5_fail_ok cx hX) (by decide) (fun _ v2 q2 => ?_)
                                      obtain ⟨rfl, xe⟩ := q2
                                      have hvs := xe.1.wd hu
                                      exact kv_vret dX5_name_84 rfl (by rw [hS]; exact ⟨rfl, xe⟩)
                                    · exact absurd h17 (by decide)
                                  · rw [h16] at hl
                                    exact absurd hl (by decide)
                          · have x2 : B s.1 = 99 := h12
                            have nmv : kpNm 1 (B s.1) = 10002 := by rw [x2]; decide
                            have hS : kpNa B n 1 s = .ok (kpNx B n s.1, s.2 ++ [kpNm 1 (B s.1)]) := if_pos ⟨e1, by rw [nmv]; decide⟩
                            have hen : kEnc (kpNm 1 (B s.1)) = -3 := by rw [nmv]; decide
                            have pn := qX9_push_lt (w := w) (l := l) hv ht (c := s.2.length) (by omega) gc (-3)
                            have xc := hX.c.push ht hen
                            have hv2 := xc.1.wd hu
                            have y5 : (kv_si (kv_si v (1 + (132 + 2 * t + 1)) s.2.length (-3)) (1 + (132 + 2 * t)) 1 (nI (s.2.length + 1))).2.1 388 5 = nI (kpTe B n s.1) := by rw [kv_si_n (by omega), kv_si_n (by omega)]; exact g5
                            refine kv_aload_n dX5_name_59 rfl ?_
                            refine kw_gRh dX5_name_60 fX5_25 hv (by first | rfl | assumption) rfl rfl (by exact r2) ?_
                            refine kv_iconst dX5_name_63 (-1) ki_m1 ?_
                            refine kv_iload_n dX5_name_64 rfl ?_
                            refine kv_isub dX5_name_65 ?_
                            rw [show (((-1) : Int32) - 2) = (-3) from rfl]
                            refine kw_Vv [_] mX9_push dX5_name_66 lX5_68 wX9_push kC9 hv rfl (by first | rfl | assumption) rfl rfl rfl pn (by decide) ?_
                            have _p := pn
                            refine kv_aload_n dX5_name_69 rfl ?_
                            refine kw_VQ [] mX5_step dX5_name_70 lX5_35 wX5_step kC5 hv2 rfl (by first | rfl | assumption) rfl rfl rfl (qX5_step (cx.of xc.1) (kpTe B n s.1) hte.2 y5) (by decide) (fun _ v1 q1 => ?_)
                            obtain ⟨rfl, es, z4, z5, z3⟩ := q1
                            have hvs := es.wd hv2
                            exact kv_vret dX5_name_73 rfl (by rw [hS]; exact ⟨rfl, kpXs.next ht hlt xc (by rw [List.length_append, List.length_singleton]; omega) es z4 z5 z3⟩)
                  · have x1 : B s.1 = 101 := h8
                    have nmv : kpNm 1 (B s.1) = 10001 := by rw [x1]; decide
                    have hS : kpNa B n 1 s = .ok (kpNx B n s.1, s.2 ++ [kpNm 1 (B s.1)]) := if_pos ⟨e1, by rw [nmv]; decide⟩
                    have hen : kEnc (kpNm 1 (B s.1)) = -2 := by rw [nmv]; decide
                    have pn := qX9_push_lt (w := w) (l := l) hv ht (c := s.2.length) (by omega) gc (-2)
                    have xc := hX.c.push ht hen
                    have hv2 := xc.1.wd hu
                    have y5 : (kv_si (kv_si v (1 + (132 + 2 * t + 1)) s.2.length (-2)) (1 + (132 + 2 * t)) 1 (nI (s.2.length + 1))).2.1 388 5 = nI (kpTe B n s.1) := by rw [kv_si_n (by omega), kv_si_n (by omega)]; exact g5
                    refine kv_aload_n dX5_name_59 rfl ?_
                    refine kw_gRh dX5_name_60 fX5_25 hv (by first | rfl | assumption) rfl rfl (by exact r2) ?_
                    refine kv_iconst dX5_name_63 (-1) ki_m1 ?_
                    refine kv_iload_n dX5_name_64 rfl ?_
                    refine kv_isub dX5_name_65 ?_
                    rw [show (((-1) : Int32) - 1) = (-2) from rfl]
                    refine kw_Vv [_] mX9_push dX5_name_66 lX5_68 wX9_push kC9 hv rfl (by first | rfl | assumption) rfl rfl rfl pn (by decide) ?_
                    have _p := pn
                    refine kv_aload_n dX5_name_69 rfl ?_
                    refine kw_VQ [] mX5_step dX5_name_70 lX5_35 wX5_step kC5 hv2 rfl (by first | rfl | assumption) rfl rfl rfl (qX5_step (cx.of xc.1) (kpTe B n s.1) hte.2 y5) (by decide) (fun _ v1 q1 => ?_)
                    obtain ⟨rfl, es, z4, z5, z3⟩ := q1
                    have hvs := es.wd hv2
                    exact kv_vret dX5_name_73 rfl (by rw [hS]; exact ⟨rfl, kpXs.next ht hlt xc (by rw [List.length_append, List.length_singleton]; omega) es z4 z5 z3⟩)
          · have x0 : B s.1 = 114 := h4
            have nmv : kpNm 1 (B s.1) = 10000 := by rw [x0]; decide
            have hS : kpNa B n 1 s = .ok (kpNx B n s.1, s.2 ++ [kpNm 1 (B s.1)]) := if_pos ⟨e1, by rw [nmv]; decide⟩
            have hen : kEnc (kpNm 1 (B s.1)) = -1 := by rw [nmv]; decide
            have pn := qX9_push_lt (w := w) (l := l) hv ht (c := s.2.length) (by omega) gc (-1)
            have xc := hX.c.push ht hen
            have hv2 := xc.1.wd hu
            have y5 : (kv_si (kv_si v (1 + (132 + 2 * t + 1)) s.2.length (-1)) (1 + (132 + 2 * t)) 1 (nI (s.2.length + 1))).2.1 388 5 = nI (kpTe B n s.1) := by rw [kv_si_n (by omega), kv_si_n (by omega)]; exact g5
            refine kv_aload_n dX5_name_59 rfl ?_
            refine kw_gRh dX5_name_60 fX5_25 hv (by first | rfl | assumption) rfl rfl (by exact r2) ?_
            refine kv_iconst dX5_name_63 (-1) ki_m1 ?_
            refine kv_iload_n dX5_name_64 rfl ?_
            refine kv_isub dX5_name_65 ?_
            rw [show (((-1) : Int32) - 0) = (-1) from rfl]
            refine kw_Vv [_] mX9_push dX5_name_66 lX5_68 wX9_push kC9 hv rfl (by first | rfl | assumption) rfl rfl rfl pn (by decide) ?_
            have _p := pn
            refine kv_aload_n dX5_name_69 rfl ?_
            refine kw_VQ [] mX5_step dX5_name_70 lX5_35 wX5_step kC5 hv2 rfl (by first | rfl | assumption) rfl rfl rfl (qX5_step (cx.of xc.1) (kpTe B n s.1) hte.2 y5) (by decide) (fun _ v1 q1 => ?_)
            obtain ⟨rfl, es, z4, z5, z3⟩ := q1
            have hvs := es.wd hv2
            exact kv_vret dX5_name_73 rfl (by rw [hS]; exact ⟨rfl, kpXs.next ht hlt xc (by rw [List.length_append, List.length_singleton]; omega) es z4 z5 z3⟩)

set_option maxRecDepth 20000 in
set_option maxHeartbeats 4000000 in
theorem qX5_name_2 {w : KW} {l : Launch} {u : KMem} {t : Nat} {B : Nat → Int32} {n : Nat} (cx : kpCx u t B n 2) {v : KMem} {s : KPs} (hX : kpXs u t B n s v) (hlt : s.1 < n) (hl : kpLr (B s.1) = true) : KC w l mX5_name 2 0 0 [.ref 388] v (fun r z => r = none ∧ kpXr u t B n (kpNa B n 2 s) z) := by
  have hu := cx.wd
  have ht := cx.ht
  have hn := cx.hn
  obtain ⟨E, g6, g4, g5, g3, gc, gs, hp, hsl⟩ := id hX
  have hv := E.wd hu
  have r0 : v.2.2.2 388 0 = some 11 := by rw [E.2.1]; exact cx.f0
  have r2 : v.2.2.2 388 2 = some (1 + (132 + 2 * t)) := by rw [E.2.1]; exact cx.f2
  have vB : ∀ i, i < n → v.2.1 11 i = B i := (cx.of E).fB
  have hte := kpTe_le (B := B) hp
  obtain ⟨k1, k2, k3, k4⟩ := ks_treaty t ht
  refine KC.of (ls := [_, _, _]) rfl rfl (Nat.le_of_ble_eq_true rfl) ?_
  refine kv_aload_n dX5_name_0 rfl ?_
  refine kw_gRh dX5_name_1 fX5_25 hv (by first | rfl | assumption) rfl rfl (by exact r2) ?_
  refine kw_gI dX5_name_4 fX5_90 hv (by first | rfl | assumption) rfl rfl ?_
  skip
  · rw [(cx.of E).fu, show nI 2 = 2 from rfl]
    refine kv_iconst dX5_name_7 4 ki_4 ?_
    refine kv_imul dX5_name_8 ?_
    rw [show ((2 : Int32) * 4) = 8 from rfl]
    refine kv_istore_n (ls2 := [_, _, _]) dX5_name_9 rfl rfl rfl rfl ?_
    refine kv_iconst dX5_name_10 0 ki_0 ?_
    refine kv_istore_n (ls2 := [_, _, _]) dX5_name_11 rfl rfl rfl rfl ?_
    refine kv_iload_n dX5_name_12 rfl ?_
    refine kv_iconst dX5_name_13 4 ki_4 ?_
    refine kv_icmp_ge dX5_name_14 80 (by decide) (fun h1 => ?_) (fun h1 => ?_)
    · exact absurd h1 (by decide)
    · refine kv_aload_n dX5_name_17 rfl ?_
      refine kw_gI dX5_name_18 fX5_29 hv (by first | rfl | assumption) rfl rfl ?_
      rw [g5]
      refine kv_aload_n dX5_name_21 rfl ?_
      refine kw_gI dX5_name_22 fX5_48 hv (by first | rfl | assumption) rfl rfl ?_
      rw [g4]
      refine kv_isub dX5_name_25 ?_
      rw [show (nI (kpTe B n s.1) - nI s.1 : Int32) = nI (kpTe B n s.1 - s.1) from kn_sub rfl rfl hte.1]
      refine kv_iconst dX5_name_26 1 ki_1 ?_
      refine kv_icmp_ne dX5_name_27 80 (by decide) (fun h2 => ?_) (fun h2 => ?_)
      · have hS : kpNa B n 2 s = .error s.1 := if_neg (fun q => h2 (by rw [q.1]; rfl))
        refine kv_aload_n dX5_name_80 rfl ?_
        refine kw_VQ [] mX5_fail dX5_name_81 lX5_45 wX5_fail kC5 hv rfl (by first | rfl | assumption) rfl rfl rfl (qX5_fail_ok cx hX) (by decide) (fun _ v2 q2 => ?_)
        obtain ⟨rfl, xe⟩ := q2
        have hvs := xe.1.wd hu
        exact kv_vret dX5_name_84 rfl (by rw [hS]; exact ⟨rfl, xe⟩)
      · have e1 : kpTe B n s.1 - s.1 = 1 := (nI_eq (b := 1) (by omega) (by omega)).mp h2
        refine kv_iload_n dX5_name_30 rfl ?_
        refine kv_iload_n dX5_name_31 rfl ?_
        refine kv_iadd dX5_name_32 ?_
        rw [show ((8 : Int32) + 0) = 8 from rfl]
        refine kv_getsN 3 dX5_name_33 rfl rfl (by decide +kernel) ?_
        refine kv_lenC dX5_name_36 rfl rfl ?_
        refine kv_icmp_ge dX5_name_37 80 (by decide) (fun h3 => ?_) (fun h3 => ?_)
        · exact absurd h3 (by decide)
        · refine kv_aload_n dX5_name_40 rfl ?_
          refine kw_gRh dX5_name_41 fX5_9 hv (by first | rfl | assumption) rfl rfl (by exact r0) ?_
          refine kv_aload_n dX5_name_44 rfl ?_
          refine kw_gI dX5_name_45 fX5_48 hv (by first | rfl | assumption) rfl rfl ?_
          rw [g4]
          refine kw_il dX5_name_48 hv (by first | rfl | assumption) (s.1) rfl (by omega) rfl ?_
          rw [vB _ hlt]
          refine kv_getsN 3 dX5_name_49 rfl rfl (by decide +kernel) ?_
          refine kv_iload_n dX5_name_52 rfl ?_
          refine kv_iload_n dX5_name_53 rfl ?_
          refine kv_iadd dX5_name_54 ?_
          rw [show ((8 : Int32) + 0) = 8 from rfl]
          refine kv_cldC (k := 8) dX5_name_55 rfl rfl rfl (show (8 : Int32) = nI 8 from rfl) (by decide) rfl ?_
          rw [show (([108, 109, 110, 118, 114, 101, 99, 0, 99, 107, 98, 0] : List Int32).getD 8 0) = 99 from rfl]
          refine kv_icmp_ne dX5_name_56 74 (by decide) (fun h4 => ?_) (fun h4 => ?_)
          · have x0 : ¬ B s.1 = 99 := h4
            refine kv_iinc (ls2 := [_, _, _]) dX5_name_74 (1 : Int32) rfl rfl rfl rfl rfl rfl ?_
            refine kv_goto dX5_name_77 12 (by decide) ?_
            refine kv_iload_n dX5_name_12 rfl ?_
            refine kv_iconst dX5_name_13 4 ki_4 ?_
            refine kv_icmp_ge dX5_name_14 80 (by decide) (fun h5 => ?_) (fun h5 => ?_)
            · exact absurd h5 (by decide)
            · refine kv_aload_n dX5_name_17 rfl ?_
              refine kw_gI dX5_name_18 fX5_29 hv (by first | rfl | assumption) rfl rfl ?_
              rw [g5]
              refine kv_aload_n dX5_name_21 rfl ?_
              refine kw_gI dX5_name_22 fX5_48 hv (by first | rfl | assumption) rfl rfl ?_
              rw [g4]
              refine kv_isub dX5_name_25 ?_
              rw [show (nI (kpTe B n s.1) - nI s.1 : Int32) = nI (kpTe B n s.1 - s.1) from kn_sub rfl rfl hte.1]
              refine kv_iconst dX5_name_26 1 ki_1 ?_
              refine kv_icmp_ne dX5_name_27 80 (by decide) (fun h6 => ?_) (fun h6 => ?_)
              · exact absurd (by rw [e1]; rfl) h6
              · have _e := e1
                refine kv_iload_n dX5_name_30 rfl ?_
                refine kv_iload_n dX5_name_31 rfl ?_
                refine kv_iadd dX5_name_32 ?_
                rw [show ((8 : Int32) + 1) = 9 from rfl]
                refine kv_getsN 3 dX5_name_33 rfl rfl (by decide +kernel) ?_
                refine kv_lenC dX5_name_36 rfl rfl ?_
                refine kv_icmp_ge dX5_name_37 80 (by decide) (fun h7 => ?_) (fun h7 => ?_)
                · exact absurd h7 (by decide)
                · refine kv_aload_n dX5_name_40 rfl ?_
                  refine kw_gRh dX5_name_41 fX5_9 hv (by first | rfl | assumption) rfl rfl (by exact r0) ?_
                  refine kv_aload_n dX5_name_44 rfl ?_
                  refine kw_gI dX5_name_45 fX5_48 hv (by first | rfl | assumption) rfl rfl ?_
                  rw [g4]
                  refine kw_il dX5_name_48 hv (by first | rfl | assumption) (s.1) rfl (by omega) rfl ?_
                  rw [vB _ hlt]
                  refine kv_getsN 3 dX5_name_49 rfl rfl (by decide +kernel) ?_
                  refine kv_iload_n dX5_name_52 rfl ?_
                  refine kv_iload_n dX5_name_53 rfl ?_
                  refine kv_iadd dX5_name_54 ?_
                  rw [show ((8 : Int32) + 1) = 9 from rfl]
                  refine kv_cldC (k := 9) dX5_name_55 rfl rfl rfl (show (9 : Int32) = nI 9 from rfl) (by decide) rfl ?_
                  rw [show (([108, 109, 110, 118, 114, 101, 99, 0, 99, 107, 98, 0] : List Int32).getD 9 0) = 107 from rfl]
                  refine kv_icmp_ne dX5_name_56 74 (by decide) (fun h8 => ?_) (fun h8 => ?_)
                  · have x1 : ¬ B s.1 = 107 := h8
                    refine kv_iinc (ls2 := [_, _, _]) dX5_name_74 (2 : Int32) rfl rfl rfl rfl rfl rfl ?_
                    refine kv_goto dX5_name_77 12 (by decide) ?_
                    refine kv_iload_n dX5_name_12 rfl ?_
                    refine kv_iconst dX5_name_13 4 ki_4 ?_
                    refine kv_icmp_ge dX5_name_14 80 (by decide) (fun h9 => ?_) (fun h9 => ?_)
                    · exact absurd h9 (by decide)
                    · refine kv_aload_n dX5_name_17 rfl ?_
                      refine kw_gI dX5_name_18 fX5_29 hv (by first | rfl | assumption) rfl rfl ?_
                      rw [g5]
                      refine kv_aload_n dX5_name_21 rfl ?_
                      refine kw_gI dX5_name_22 fX5_48 hv (by first | rfl | assumption) rfl rfl ?_
                      rw [g4]
                      refine kv_isub dX5_name_25 ?_
                      rw [show (nI (kpTe B n s.1) - nI s.1 : Int32) = nI (kpTe B n s.1 - s.1) from kn_sub rfl rfl hte.1]
                      refine kv_iconst dX5_name_26 1 ki_1 ?_
                      refine kv_icmp_ne dX5_name_27 80 (by decide) (fun h10 => ?_) (fun h10 => ?_)
                      · exact absurd (by rw [e1]; rfl) h10
                      · have _e := e1
                        refine kv_iload_n dX5_name_30 rfl ?_
                        refine kv_iload_n dX5_name_31 rfl ?_
                        refine kv_iadd dX5_name_32 ?_
                        rw [show ((8 : Int32) + 2) = 10 from rfl]
                        refine kv_getsN 3 dX5_name_33 rfl rfl (by decide +kernel) ?_
                        refine kv_lenC dX5_name_36 rfl rfl ?_
                        refine kv_icmp_ge dX5_name_37 80 (by decide) (fun h11 => ?_) (fun h11 => ?_)
                        · exact absurd h11 (by decide)
                        · refine kv_aload_n dX5_name_40 rfl ?_
                          refine kw_gRh dX5_name_41 fX5_9 hv (by first | rfl | assumption) rfl rfl (by exact r0) ?_
                          refine kv_aload_n dX5_name_44 rfl ?_
                          refine kw_gI dX5_name_45 fX5_48 hv (by first | rfl | assumption) rfl rfl ?_
                          rw [g4]
                          refine kw_il dX5_name_48 hv (by first | rfl | assumption) (s.1) rfl (by omega) rfl ?_
                          rw [vB _ hlt]
                          refine kv_getsN 3 dX5_name_49 rfl rfl (by decide +kernel) ?_
                          refine kv_iload_n dX5_name_52 rfl ?_
                          refine kv_iload_n dX5_name_53 rfl ?_
                          refine kv_iadd dX5_name_54 ?_
                          rw [show ((8 : Int32) + 2) = 10 from rfl]
                          refine kv_cldC (k := 10) dX5_name_55 rfl rfl rfl (show (10 : Int32) = nI 10 from rfl) (by decide) rfl ?_
                          rw [show (([108, 109, 110, 118, 114, 101, 99, 0, 99, 107, 98, 0] : List Int32).getD 10 0) = 98 from rfl]
                          refine kv_icmp_ne dX5_name_56 74 (by decide) (fun h12 => ?_) (fun h12 => ?_)
                          · have x2 : ¬ B s.1 = 98 := h12
                            refine kv_iinc (ls2 := [_, _, _]) dX5_name_74 (3 : Int32) rfl rfl rfl rfl rfl rfl ?_
                            refine kv_goto dX5_name_77 12 (by decide) ?_
                            refine kv_iload_n dX5_name_12 rfl ?_
                            refine kv_iconst dX5_name_13 4 ki_4 ?_
                            refine kv_icmp_ge dX5_name_14 80 (by decide) (fun h13 => ?_) (fun h13 => ?_)
                            · exact absurd h13 (by decide)
                            · refine kv_aload_n dX5_name_17 rfl ?_
                              refine kw_gI dX5_name_18 fX5_29 hv (by first | rfl | assumption) rfl rfl ?_
                              rw [g5]
                              refine kv_aload_n dX5_name_21 rfl ?_
                              refine kw_gI dX5_name_22 fX5_48 hv (by first | rfl | assumption) rfl rfl ?_
                              rw [g4]
                              refine kv_isub dX5_name_25 ?_
                              rw [show (nI (kpTe B n s.1) - nI s.1 : Int32) = nI (kpTe B n s.1 - s.1) from kn_sub rfl rfl hte.1]
                              refine kv_iconst dX5_name_26 1 ki_1 ?_
                              refine kv_icmp_ne dX5_name_27 80 (by decide) (fun h14 => ?_) (fun h14 => ?_)
                              · exact absurd (by rw [e1]; rfl) h14
                              · have _e := e1
                                refine kv_iload_n dX5_name_30 rfl ?_
                                refine kv_iload_n dX5_name_31 rfl ?_
                                refine kv_iadd dX5_name_32 ?_
                                rw [show ((8 : Int32) + 3) = 11 from rfl]
                                refine kv_getsN 3 dX5_name_33 rfl rfl (by decide +kernel) ?_
                                refine kv_lenC dX5_name_36 rfl rfl ?_
                                refine kv_icmp_ge dX5_name_37 80 (by decide) (fun h15 => ?_) (fun h15 => ?_)
                                · exact absurd h15 (by decide)
                                · refine kv_aload_n dX5_name_40 rfl ?_
                                  refine kw_gRh dX5_name_41 fX5_9 hv (by first | rfl | assumption) rfl rfl (by exact r0) ?_
                                  refine kv_aload_n dX5_name_44 rfl ?_
                                  refine kw_gI dX5_name_45 fX5_48 hv (by first | rfl | assumption) rfl rfl ?_
                                  rw [g4]
                                  refine kw_il dX5_name_48 hv (by first | rfl | assumption) (s.1) rfl (by omega) rfl ?_
                                  rw [vB _ hlt]
                                  refine kv_getsN 3 dX5_name_49 rfl rfl (by decide +kernel) ?_
                                  refine kv_iload_n dX5_name_52 rfl ?_
                                  refine kv_iload_n dX5_name_53 rfl ?_
                                  refine kv_iadd dX5_name_54 ?_
                                  rw [show ((8 : Int32) + 3) = 11 from rfl]
                                  refine kv_cldC (k := 11) dX5_name_55 rfl rfl rfl (show (11 : Int32) = nI 11 from rfl) (by decide) rfl ?_
                                  rw [show (([108, 109, 110, 118, 114, 101, 99, 0, 99, 107, 98, 0] : List Int32).getD 11 0) = 0 from rfl]
                                  refine kv_icmp_ne dX5_name_56 74 (by decide) (fun h16 => ?_) (fun h16 => ?_)
                                  · have x3 : ¬ B s.1 = 0 := h16
                                    have hS : kpNa B n 2 s = .error s.1 := if_neg (fun q => q.2 (by simp only [kpNm, x0, x1, x2, x3, ↓reduceIte, Nat.succ_ne_zero, Nat.reduceEqDiff, Nat.one_ne_zero, Nat.succ_ne_self, reduceCtorEq]))
                                    refine kv_iinc (ls2 := [_, _, _]) dX5_name_74 (4 : Int32) rfl rfl rfl rfl rfl rfl ?_
                                    refine kv_goto dX5_name_77 12 (by decide) ?_
                                    refine kv_iload_n dX5_name_12 rfl ?_
                                    refine kv_iconst dX5_name_13 4 ki_4 ?_
                                    refine kv_icmp_ge dX5_name_14 80 (by decide) (fun h17 => ?_) (fun h17 => ?_)
                                    · refine kv_aload_n dX5_name_80 rfl ?_
                                      refine kw_VQ [] mX5_fail dX5_name_81 lX5_45 wX5_fail kC5 hv rfl (by first | rfl | assumption) rfl rfl rfl (qX5_fail_ok cx hX) (by decide) (fun _ v2 q2 => ?_)
                                      obtain ⟨rfl, xe⟩ := q2
                                      have hvs := xe.1.wd hu
                                      exact kv_vret dX5_name_84 rfl (by rw [hS]; exact ⟨rfl, xe⟩)
                                    · exact absurd h17 (by decide)
                                  · rw [h16] at hl
                                    exact absurd hl (by decide)
                          · have x2 : B s.1 = 98 := h12
                            have nmv : kpNm 2 (B s.1) = 10002 := by rw [x2]; decide
                            have hS : kpNa B n 2 s = .ok (kpNx B n s.1, s.2 ++ [kpNm 2 (B s.1)]) := if_pos ⟨e1, by rw [nmv]; decide⟩
                            have hen : kEnc (kpNm 2 (B s.1)) = -3 := by rw [nmv]; decide
                            have pn := qX9_push_lt (w := w) (l := l) hv ht (c := s.2.length) (by omega) gc (-3)
                            have xc := hX.c.push ht hen
                            have hv2 := xc.1.wd hu
                            have y5 : (kv_si (kv_si v (1 + (132 + 2 * t + 1)) s.2.length (-3)) (1 + (132 + 2 * t)) 1 (nI (s.2.length + 1))).2.1 388 5 = nI (kpTe B n s.1) := by rw [kv_si_n (by omega), kv_si_n (by omega)]; exact g5
                            refine kv_aload_n dX5_name_59 rfl ?_
                            refine kw_gRh dX5_name_60 fX5_25 hv (by first | rfl | assumption) rfl rfl (by exact r2) ?_
                            refine kv_iconst dX5_name_63 (-1) ki_m1 ?_
                            refine kv_iload_n dX5_name_64 rfl ?_
                            refine kv_isub dX5_name_65 ?_
                            rw [show (((-1) : Int32) - 2) = (-3) from rfl]
                            refine kw_Vv [_] mX9_push dX5_name_66 lX5_68 wX9_push kC9 hv rfl (by first | rfl | assumption) rfl rfl rfl pn (by decide) ?_
                            have _p := pn
                            refine kv_aload_n dX5_name_69 rfl ?_
                            refine kw_VQ [] mX5_step dX5_name_70 lX5_35 wX5_step kC5 hv2 rfl (by first | rfl | assumption) rfl rfl rfl (qX5_step (cx.of xc.1) (kpTe B n s.1) hte.2 y5) (by decide) (fun _ v1 q1 => ?_)
                            obtain ⟨rfl, es, z4, z5, z3⟩ := q1
                            have hvs := es.wd hv2
                            exact kv_vret dX5_name_73 rfl (by rw [hS]; exact ⟨rfl, kpXs.next ht hlt xc (by rw [List.length_append, List.length_singleton]; omega) es z4 z5 z3⟩)
                  · have x1 : B s.1 = 107 := h8
                    have nmv : kpNm 2 (B s.1) = 10001 := by rw [x1]; decide
                    have hS : kpNa B n 2 s = .ok (kpNx B n s.1, s.2 ++ [kpNm 2 (B s.1)]) := if_pos ⟨e1, by rw [nmv]; decide⟩
                    have hen : kEnc (kpNm 2 (B s.1)) = -2 := by rw [nmv]; decide
                    have pn := qX9_push_lt (w := w) (l := l) hv ht (c := s.2.length) (by omega) gc (-2)
                    have xc := hX.c.push ht hen
                    have hv2 := xc.1.wd hu
                    have y5 : (kv_si (kv_si v (1 + (132 + 2 * t + 1)) s.2.length (-2)) (1 + (132 + 2 * t)) 1 (nI (s.2.length + 1))).2.1 388 5 = nI (kpTe B n s.1) := by rw [kv_si_n (by omega), kv_si_n (by omega)]; exact g5
                    refine kv_aload_n dX5_name_59 rfl ?_
                    refine kw_gRh dX5_name_60 fX5_25 hv (by first | rfl | assumption) rfl rfl (by exact r2) ?_
                    refine kv_iconst dX5_name_63 (-1) ki_m1 ?_
                    refine kv_iload_n dX5_name_64 rfl ?_
                    refine kv_isub dX5_name_65 ?_
                    rw [show (((-1) : Int32) - 1) = (-2) from rfl]
                    refine kw_Vv [_] mX9_push dX5_name_66 lX5_68 wX9_push kC9 hv rfl (by first | rfl | assumption) rfl rfl rfl pn (by decide) ?_
                    have _p := pn
                    refine kv_aload_n dX5_name_69 rfl ?_
                    refine kw_VQ [] mX5_step dX5_name_70 lX5_35 wX5_step kC5 hv2 rfl (by first | rfl | assumption) rfl rfl rfl (qX5_step (cx.of xc.1) (kpTe B n s.1) hte.2 y5) (by decide) (fun _ v1 q1 => ?_)
                    obtain ⟨rfl, es, z4, z5, z3⟩ := q1
                    have hvs := es.wd hv2
                    exact kv_vret dX5_name_73 rfl (by rw [hS]; exact ⟨rfl, kpXs.next ht hlt xc (by rw [List.length_append, List.length_singleton]; omega) es z4 z5 z3⟩)
          · have x0 : B s.1 = 99 := h4
            have nmv : kpNm 2 (B s.1) = 10000 := by rw [x0]; decide
            have hS : kpNa B n 2 s = .ok (kpNx B n s.1, s.2 ++ [kpNm 2 (B s.1)]) := if_pos ⟨e1, by rw [nmv]; decide⟩
            have hen : kEnc (kpNm 2 (B s.1)) = -1 := by rw [nmv]; decide
            have pn := qX9_push_lt (w := w) (l := l) hv ht (c := s.2.length) (by omega) gc (-1)
            have xc := hX.c.push ht hen
            have hv2 := xc.1.wd hu
            have y5 : (kv_si (kv_si v (1 + (132 + 2 * t + 1)) s.2.length (-1)) (1 + (132 + 2 * t)) 1 (nI (s.2.length + 1))).2.1 388 5 = nI (kpTe B n s.1) := by rw [kv_si_n (by omega), kv_si_n (by omega)]; exact g5
            refine kv_aload_n dX5_name_59 rfl ?_
            refine kw_gRh dX5_name_60 fX5_25 hv (by first | rfl | assumption) rfl rfl (by exact r2) ?_
            refine kv_iconst dX5_name_63 (-1) ki_m1 ?_
            refine kv_iload_n dX5_name_64 rfl ?_
            refine kv_isub dX5_name_65 ?_
            rw [show (((-1) : Int32) - 0) = (-1) from rfl]
            refine kw_Vv [_] mX9_push dX5_name_66 lX5_68 wX9_push kC9 hv rfl (by first | rfl | assumption) rfl rfl rfl pn (by decide) ?_
            have _p := pn
            refine kv_aload_n dX5_name_69 rfl ?_
            refine kw_VQ [] mX5_step dX5_name_70 lX5_35 wX5_step kC5 hv2 rfl (by first | rfl | assumption) rfl rfl rfl (qX5_step (cx.of xc.1) (kpTe B n s.1) hte.2 y5) (by decide) (fun _ v1 q1 => ?_)
            obtain ⟨rfl, es, z4, z5, z3⟩ := q1
            have hvs := es.wd hv2
            exact kv_vret dX5_name_73 rfl (by rw [hS]; exact ⟨rfl, kpXs.next ht hlt xc (by rw [List.length_append, List.length_singleton]; omega) es z4 z5 z3⟩)

theorem qX5_name {w : KW} {l : Launch} {u : KMem} {t : Nat} {B : Nat → Int32} {n use : Nat} (cx : kpCx u t B n use) {v : KMem} {s : KPs} (hX : kpXs u t B n s v) (hlt : s.1 < n) (hl : kpLr (B s.1) = true) : KC w l mX5_name 2 0 0 [.ref 388] v (fun r z => r = none ∧ kpXr u t B n (kpNa B n use s) z) := by
  have h3 := cx.hus
  rcases (show use = 0 ∨ use = 1 ∨ use = 2 by omega) with rfl | rfl | rfl
  · exact qX5_name_0 cx hX hlt hl
  · exact qX5_name_1 cx hX hlt hl
  · exact qX5_name_2 cx hX hlt hl
