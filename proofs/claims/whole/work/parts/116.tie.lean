/-! ties of both -/
set_option maxRecDepth 20000 in
set_option maxHeartbeats 4000000 in
theorem qX0_marksLike {w : KW} {l : Launch} {u : KMem} (hu : kWd u) {g : Nat → Int32} (hr : kRS 1 g u) (hg : kGI g) (c d : Nat) (hc : c < kN g 0) (hd : d < kN g 0) : KC w l mX0_marksLike 0 0 0 [.ref (1 + (12 + 2 * c)), .ref (1 + (12 + 2 * d))] u (kq (some (.int (if 2 ≤ kAlA g c d 3 then 1 else 0))) u) := by
  have hx20 := (hg.cnt (k := 2) rfl).2
  have hc30 := (hg.cnt (k := 0) rfl).2
  have hw := hg.cnt (k := 2) rfl
  refine KC.of (ls := [_, _, _, _]) rfl rfl (Nat.le_of_ble_eq_true rfl) ?_
  have kc := ks_car (c) (by omega)
  have kca := kc.1
  have kcb := kc.2.1
  have kcc := kc.2.2.1
  have kcd := kc.2.2.2
  have kd := ks_car (d) (by omega)
  have kda := kd.1
  have kdb := kd.2.1
  have kdc := kd.2.2.1
  have kdd := kd.2.2.2
  refine kv_iconst dX0_marksLike_0 0 ki_0 ?_
  refine kv_istore_n (ls2 := [_, _, _, _]) dX0_marksLike_1 rfl rfl rfl rfl ?_
  refine kv_iconst dX0_marksLike_2 0 ki_0 ?_
  refine kv_istore_n (ls2 := [_, _, _, _]) dX0_marksLike_3 rfl rfl rfl rfl ?_
  refine KV.loc (ls2 := [some (.ref (1 + (12 + 2 * c))), some (.ref (1 + (12 + 2 * d))), some (.int (nI (kAlA g c d (0)))), some (.int (nI (0)))]) ?_ (ksS (by first | rfl | exact congrArg (fun z => some (Value.int z)) ((kv_inc1 _).trans (congrArg nI (by rw [e1, if_pos hq]))) | exact congrArg (fun z => some (Value.int (nI z))) (by rw [e1, if_neg hq, Nat.add_zero])) (ksS (by first | rfl | exact congrArg (fun z => some (Value.int z)) ((kv_inc1 _).trans (congrArg nI (by rw [e1, if_pos hq]))) | exact congrArg (fun z => some (Value.int (nI z))) (by rw [e1, if_neg hq, Nat.add_zero])) (ksS (by first | rfl | exact congrArg (fun z => some (Value.int z)) ((kv_inc1 _).trans (congrArg nI (by rw [e1, if_pos hq]))) | exact congrArg (fun z => some (Value.int (nI z))) (by rw [e1, if_neg hq, Nat.add_zero])) (ksS (by first | rfl | exact congrArg (fun z => some (Value.int z)) ((kv_inc1 _).trans (congrArg nI (by rw [e1, if_pos hq]))) | exact congrArg (fun z => some (Value.int (nI z))) (by rw [e1, if_neg hq, Nat.add_zero])) ksN))))
  refine kn_loop (P := fun i => KV w l mX0_marksLike 0 0 0 4 [some (.ref (1 + (12 + 2 * c))), some (.ref (1 + (12 + 2 * d))), some (.int (nI (kAlA g c d (i)))), some (.int (nI (i)))] [] u (kq (some (.int (if 2 ≤ kAlA g c d 3 then 1 else 0))) u)) (3) ?_ (fun i hi ih => ?_)
  · refine kv_iload_n dX0_marksLike_4 rfl ?_
    refine kv_iconst dX0_marksLike_5 3 ki_3 ?_
    refine kv_icmp_ge dX0_marksLike_6 42 (by decide) (fun h1 => ?_) (fun h1 => ?_)
    · refine kv_iload_n dX0_marksLike_42 rfl ?_
      refine kv_iconst dX0_marksLike_43 2 ki_2 ?_
      refine kv_icmp_lt dX0_marksLike_44 51 (by decide) (fun h2 => ?_) (fun h2 => ?_)
      · have hq : ¬ 2 ≤ kAlA g c d 3 := fun q => nI_nlt (b := 2) q (by have := kAlA_le g c d 3; omega) h2
        refine kv_iconst dX0_marksLike_51 0 ki_0 ?_
        exact kv_zret dX0_marksLike_52 rfl kv_z0 ⟨by first | rw [if_pos hq] | rw [if_neg hq], rfl⟩
      · have hq : 2 ≤ kAlA g c d 3 := Nat.le_of_not_lt (fun q => h2 (nI_lt (b := 2) q (by omega)))
        refine kv_iconst dX0_marksLike_47 1 ki_1 ?_
        refine kv_goto dX0_marksLike_48 52 (by decide) ?_
        exact kv_zret dX0_marksLike_52 rfl kv_z1 ⟨by first | rw [if_pos hq] | rw [if_neg hq], rfl⟩
    · exact absurd (Int32.le_refl (nI 3)) h1
  · have e1 : kAlA g c d (i + 1) = kAlA g c d i + (if ¬ g (40 + 8 * c + (5 + i)) < 0 ∧ g (40 + 8 * c + (5 + i)) = g (40 + 8 * d + (5 + i)) then 1 else 0) := rfl
    refine kv_iload_n dX0_marksLike_4 rfl ?_
    refine kv_iconst dX0_marksLike_5 3 ki_3 ?_
    refine kv_icmp_ge dX0_marksLike_6 42 (by decide) (fun h3 => ?_) (fun h3 => ?_)
    · exact absurd h3 (kn_ge (n := 3) hi (by omega))
    · refine kv_aload_n dX0_marksLike_9 rfl ?_
      refine kw_gR dX0_marksLike_10 fX0_9 hu (by first | rfl | assumption) rfl rfl (by first | rfl | assumption) ?_
      refine kv_iload_n dX0_marksLike_13 rfl ?_
      refine kw_il dX0_marksLike_14 hu (by first | rfl | assumption) (i) rfl (by omega) rfl ?_
      rw [hr.mark hc hi]
      refine kv_if_lt dX0_marksLike_15 36 (by decide) (fun h4 => ?_) (fun h4 => ?_)
      · have hq : ¬ (¬ g (40 + 8 * c + (5 + i)) < 0 ∧ g (40 + 8 * c + (5 + i)) = g (40 + 8 * d + (5 + i))) := fun q => q.1 h4
        refine kv_iinc (ls2 := [_, _, _, _]) dX0_marksLike_36 (nI (i + 1)) rfl (kv_inc1 i) rfl rfl rfl rfl ?_
        refine kv_goto dX0_marksLike_39 4 (by decide) ?_
        exact KV.loc ih (ksS (by first | rfl | exact congrArg (fun z => some (Value.int z)) ((kv_inc1 _).trans (congrArg nI (by rw [e1, if_pos hq]))) | exact congrArg (fun z => some (Value.int (nI z))) (by rw [e1, if_neg hq, Nat.add_zero])) (ksS (by first | rfl | exact congrArg (fun z => some (Value.int z)) ((kv_inc1 _).trans (congrArg nI (by rw [e1, if_pos hq]))) | exact congrArg (fun z => some (Value.int (nI z))) (by rw [e1, if_neg hq, Nat.add_zero])) (ksS (by first | rfl | exact congrArg (fun z => some (Value.int z)) ((kv_inc1 _).trans (congrArg nI (by rw [e1, if_pos hq]))) | exact congrArg (fun z => some (Value.int (nI z))) (by rw [e1, if_neg hq, Nat.add_zero])) (ksS (by first | rfl | exact congrArg (fun z => some (Value.int z)) ((kv_inc1 _).trans (congrArg nI (by rw [e1, if_pos hq]))) | exact congrArg (fun z => some (Value.int (nI z))) (by rw [e1, if_neg hq, Nat.add_zero])) ksN))))
      · have h0 := h4
        refine kv_aload_n dX0_marksLike_18 rfl ?_
        refine kw_gR dX0_marksLike_19 fX0_9 hu (by first | rfl | assumption) rfl rfl (by first | rfl | assumption) ?_
        refine kv_iload_n dX0_marksLike_22 rfl ?_
        refine kw_il dX0_marksLike_23 hu (by first | rfl | assumption) (i) rfl (by omega) rfl ?_
        rw [hr.mark hc hi]
        refine kv_aload_n dX0_marksLike_24 rfl ?_
        refine kw_gR dX0_marksLike_25 fX0_9 hu (by first | rfl | assumption) rfl rfl (by first | rfl | assumption) ?_
        refine kv_iload_n dX0_marksLike_28 rfl ?_
        refine kw_il dX0_marksLike_29 hu (by first | rfl | assumption) (i) rfl (by omega) rfl ?_
        rw [hr.mark hd hi]
        refine kv_icmp_ne dX0_marksLike_30 36 (by decide) (fun h5 => ?_) (fun h5 => ?_)
        · have hq : ¬ (¬ g (40 + 8 * c + (5 + i)) < 0 ∧ g (40 + 8 * c + (5 + i)) = g (40 + 8 * d + (5 + i))) := fun q => h5 q.2
          refine kv_iinc (ls2 := [_, _, _, _]) dX0_marksLike_36 (nI (i + 1)) rfl (kv_inc1 i) rfl rfl rfl rfl ?_
          refine kv_goto dX0_marksLike_39 4 (by decide) ?_
          exact KV.loc ih (ksS (by first | rfl | exact congrArg (fun z => some (Value.int z)) ((kv_inc1 _).trans (congrArg nI (by rw [e1, if_pos hq]))) | exact congrArg (fun z => some (Value.int (nI z))) (by rw [e1, if_neg hq, Nat.add_zero])) (ksS (by first | rfl | exact congrArg (fun z => some (Value.int z)) ((kv_inc1 _).trans (congrArg nI (by rw [e1, if_pos hq]))) | exact congrArg (fun z => some (Value.int (nI z))) (by rw [e1, if_neg hq, Nat.add_zero])) (ksS (by first | rfl | exact congrArg (fun z => some (Value.int z)) ((kv_inc1 _).trans (congrArg nI (by rw [e1, if_pos hq]))) | exact congrArg (fun z => some (Value.int (nI z))) (by rw [e1, if_neg hq, Nat.add_zero])) (ksS (by first | rfl | exact congrArg (fun z => some (Value.int z)) ((kv_inc1 _).trans (congrArg nI (by rw [e1, if_pos hq]))) | exact congrArg (fun z => some (Value.int (nI z))) (by rw [e1, if_neg hq, Nat.add_zero])) ksN))))
        · have hq : ¬ g (40 + 8 * c + (5 + i)) < 0 ∧ g (40 + 8 * c + (5 + i)) = g (40 + 8 * d + (5 + i)) := ⟨h0, h5⟩
          refine kv_iinc (ls2 := [_, _, _, _]) dX0_marksLike_33 _ rfl rfl rfl rfl rfl rfl ?_
          refine kv_iinc (ls2 := [_, _, _, _]) dX0_marksLike_36 (nI (i + 1)) rfl (kv_inc1 i) rfl rfl rfl rfl ?_
          refine kv_goto dX0_marksLike_39 4 (by decide) ?_
          exact KV.loc ih (ksS (by first | rfl | exact congrArg (fun z => some (Value.int z)) ((kv_inc1 _).trans (congrArg nI (by rw [e1, if_pos hq]))) | exact congrArg (fun z => some (Value.int (nI z))) (by rw [e1, if_neg hq, Nat.add_zero])) (ksS (by first | rfl | exact congrArg (fun z => some (Value.int z)) ((kv_inc1 _).trans (congrArg nI (by rw [e1, if_pos hq]))) | exact congrArg (fun z => some (Value.int (nI z))) (by rw [e1, if_neg hq, Nat.add_zero])) (ksS (by first | rfl | exact congrArg (fun z => some (Value.int z)) ((kv_inc1 _).trans (congrArg nI (by rw [e1, if_pos hq]))) | exact congrArg (fun z => some (Value.int (nI z))) (by rw [e1, if_neg hq, Nat.add_zero])) (ksS (by first | rfl | exact congrArg (fun z => some (Value.int z)) ((kv_inc1 _).trans (congrArg nI (by rw [e1, if_pos hq]))) | exact congrArg (fun z => some (Value.int (nI z))) (by rw [e1, if_neg hq, Nat.add_zero])) ksN))))

set_option maxRecDepth 20000 in
set_option maxHeartbeats 4000000 in
theorem qX8_areTied {w : KW} {l : Launch} {u : KMem} (hu : kWd u) {g : Nat → Int32} (hr : kRS 1 g u) (hg : kGI g) (a b : Nat) (ha : a < kN g 2) (hb : b < kN g 2) : KC w l mX8_areTied 1 0 0 [.ref 394, .ref (1 + (72 + 3 * a)), .ref (1 + (72 + 3 * b))] u (kq (some (.int (if kTie g a b then 1 else 0))) u) := by
  have hx20 := (hg.cnt (k := 2) rfl).2
  have hc30 := (hg.cnt (k := 0) rfl).2
  have hw := hg.cnt (k := 2) rfl
  refine KC.of (ls := [_, _, _, _, _, _, _]) rfl rfl (Nat.le_of_ble_eq_true rfl) ?_
  have ca0 := hg.carOf ha (s := 0) (by omega)
  have ka0 := ks_car (kCarOf g a 0) (by omega)
  have ka0a := ka0.1
  have ka0b := ka0.2.1
  have ka0c := ka0.2.2.1
  have ka0d := ka0.2.2.2
  have ca1 := hg.carOf ha (s := 1) (by omega)
  have ka1 := ks_car (kCarOf g a 1) (by omega)
  have ka1a := ka1.1
  have ka1b := ka1.2.1
  have ka1c := ka1.2.2.1
  have ka1d := ka1.2.2.2
  have cb0 := hg.carOf hb (s := 0) (by omega)
  have kb0 := ks_car (kCarOf g b 0) (by omega)
  have kb0a := kb0.1
  have kb0b := kb0.2.1
  have kb0c := kb0.2.2.1
  have kb0d := kb0.2.2.2
  have cb1 := hg.carOf hb (s := 1) (by omega)
  have kb1 := ks_car (kCarOf g b 1) (by omega)
  have kb1a := kb1.1
  have kb1b := kb1.2.1
  have kb1c := kb1.2.2.1
  have kb1d := kb1.2.2.2
  have kx := ks_crash a (by omega)
  have kx1 := kx.1
  have kx2 := kx.2.1
  have kx4 := kx.2.2.2.1
  have kx6 := kx.2.2.2.2.2
  have ky := ks_crash b (by omega)
  have ky1 := ky.1
  have ky2 := ky.2.1
  have ky4 := ky.2.2.2.1
  have ky6 := ky.2.2.2.2.2
  refine kv_iconst dX8_areTied_0 0 ki_0 ?_
  refine kv_istore_n (ls2 := [_, _, _, _, _, _, _]) dX8_areTied_1 rfl rfl rfl rfl ?_
  refine kv_iload_n dX8_areTied_2 rfl ?_
  refine kv_iconst dX8_areTied_3 2 ki_2 ?_
  refine kv_icmp_ge dX8_areTied_4 80 (by decide) (fun h1 => ?_) (fun h1 => ?_)
  · exact absurd h1 (by decide)
  · refine kv_iconst dX8_areTied_7 0 ki_0 ?_
    refine kv_istore (ls2 := [_, _, _, _, _, _, _]) dX8_areTied_8 rfl rfl rfl rfl ?_
    refine kv_iload dX8_areTied_10 rfl ?_
    refine kv_iconst dX8_areTied_12 2 ki_2 ?_
    refine kv_icmp_ge dX8_areTied_13 74 (by decide) (fun h2 => ?_) (fun h2 => ?_)
    · exact absurd h2 (by decide)
    · refine kv_aload_n dX8_areTied_16 rfl ?_
      refine kw_gR dX8_areTied_17 fX8_65 hu (by first | rfl | assumption) rfl rfl (by first | rfl | assumption) ?_
      refine kv_iload_n dX8_areTied_20 rfl ?_
      refine kw_il dX8_areTied_21 hu (by first | rfl | assumption) (_) (show (0 : Int32) = nI 0 from rfl) (by omega) rfl ?_
      first | rw [hr.cc ha 0 (by omega), ca0.1] | rw [hr.cc ha 1 (by omega), ca1.1]
      refine kv_istore (ls2 := [_, _, _, _, _, _, _]) dX8_areTied_22 rfl rfl rfl rfl ?_
      refine kv_aload_n dX8_areTied_24 rfl ?_
      refine kw_gR dX8_areTied_25 fX8_65 hu (by first | rfl | assumption) rfl rfl (by first | rfl | assumption) ?_
      refine kv_iload dX8_areTied_28 rfl ?_
      refine kw_il dX8_areTied_30 hu (by first | rfl | assumption) (_) (show (0 : Int32) = nI 0 from rfl) (by omega) rfl ?_
      first | rw [hr.cc hb 0 (by omega), cb0.1] | rw [hr.cc hb 1 (by omega), cb1.1]
      refine kv_istore (ls2 := [_, _, _, _, _, _, _]) dX8_areTied_31 rfl rfl rfl rfl ?_
      refine kv_iload dX8_areTied_33 rfl ?_
      refine kv_iload dX8_areTied_35 rfl ?_
      refine kv_icmp_eq dX8_areTied_37 66 (by decide) (fun h3 => ?_) (fun h3 => ?_)
      · have E1 := (nI_eq (by omega) (by omega)).mp h3
        have H : kTie g a b := by
          first
          | exact Or.inl (Or.inl E1)
          | exact Or.inr (Or.inl (Or.inl E1))
          | exact Or.inr (Or.inr (Or.inl (Or.inl E1)))
          | exact Or.inr (Or.inr (Or.inr (Or.inl E1)))
        refine kv_iconst dX8_areTied_66 1 ki_1 ?_
        exact kv_zret dX8_areTied_67 rfl kv_z1 ⟨by rw [if_pos H], rfl⟩
      · have ne1 := fun q => h3 (congrArg nI q)
        refine kv_aload_n dX8_areTied_40 rfl ?_
        refine kw_gR dX8_areTied_41 fX8_18 hu (by first | rfl | assumption) rfl rfl (by first | rfl | assumption) ?_
        refine kw_gR dX8_areTied_44 fX8_68 hu (by first | rfl | assumption) rfl rfl (by first | rfl | assumption) ?_
        refine kv_iload dX8_areTied_47 rfl ?_
        refine kw_al (t := 0) (n := 30) dX8_areTied_49 hu rfl rfl (_) rfl (by omega) rfl (by first | rfl | assumption) ?_
        refine kv_aload_n dX8_areTied_50 rfl ?_
        refine kw_gR dX8_areTied_51 fX8_18 hu (by first | rfl | assumption) rfl rfl (by first | rfl | assumption) ?_
        refine kw_gR dX8_areTied_54 fX8_68 hu (by first | rfl | assumption) rfl rfl (by first | rfl | assumption) ?_
        refine kv_iload dX8_areTied_57 rfl ?_
        refine kw_al (t := 0) (n := 30) dX8_areTied_59 hu rfl rfl (_) rfl (by omega) rfl (by first | rfl | assumption) ?_
        refine kw_Vi [_] mX0_marksLike dX8_areTied_60 lX8_71 wX0_marksLike kC0 hu rfl (by first | rfl | assumption) rfl rfl rfl (by first | exact qX0_marksLike hu hr hg (kCarOf g a 0) (kCarOf g b 0) ca0.2 cb0.2 | exact qX0_marksLike hu hr hg (kCarOf g a 0) (kCarOf g b 1) ca0.2 cb1.2 | exact qX0_marksLike hu hr hg (kCarOf g a 1) (kCarOf g b 0) ca1.2 cb0.2 | exact qX0_marksLike hu hr hg (kCarOf g a 1) (kCarOf g b 1) ca1.2 cb1.2 ) (by decide) ?_
        refine kw_beq dX8_areTied_63 68 (by decide) (fun h4 => ?_) (fun h4 => ?_)
        · have ne2 := h4
          refine kv_iinc (ls2 := [_, _, _, _, _, _, _]) dX8_areTied_68 (1 : Int32) rfl rfl rfl rfl rfl rfl ?_
          refine kv_goto dX8_areTied_71 10 (by decide) ?_
          refine kv_iload dX8_areTied_10 rfl ?_
          refine kv_iconst dX8_areTied_12 2 ki_2 ?_
          refine kv_icmp_ge dX8_areTied_13 74 (by decide) (fun h5 => ?_) (fun h5 => ?_)
          · exact absurd h5 (by decide)
          · refine kv_aload_n dX8_areTied_16 rfl ?_
            refine kw_gR dX8_areTied_17 fX8_65 hu (by first | rfl | assumption) rfl rfl (by first | rfl | assumption) ?_
            refine kv_iload_n dX8_areTied_20 rfl ?_
            refine kw_il dX8_areTied_21 hu (by first | rfl | assumption) (_) (show (0 : Int32) = nI 0 from rfl) (by omega) rfl ?_
            first | rw [hr.cc ha 0 (by omega), ca0.1] | rw [hr.cc ha 1 (by omega), ca1.1]
            refine kv_istore (ls2 := [_, _, _, _, _, _, _]) dX8_areTied_22 rfl rfl rfl rfl ?_
            refine kv_aload_n dX8_areTied_24 rfl ?_
            refine kw_gR dX8_areTied_25 fX8_65 hu (by first | rfl | assumption) rfl rfl (by first | rfl | assumption) ?_
            refine kv_iload dX8_areTied_28 rfl ?_
            refine kw_il dX8_areTied_30 hu (by first | rfl | assumption) (_) (show (1 : Int32) = nI 1 from rfl) (by omega) rfl ?_
            first | rw [hr.cc hb 0 (by omega), cb0.1] | rw [hr.cc hb 1 (by omega), cb1.1]
            refine kv_istore (ls2 := [_, _, _, _, _, _, _]) dX8_areTied_31 rfl rfl rfl rfl ?_
            refine kv_iload dX8_areTied_33 rfl ?_
            refine kv_iload dX8_areTied_35 rfl ?_
            refine kv_icmp_eq dX8_areTied_37 66 (by decide) (fun h6 => ?_) (fun h6 => ?_)
            · have E1 := (nI_eq (by omega) (by omega)).mp h6
              have H : kTie g a b := by
                first
                | exact Or.inl (Or.inl E1)
                | exact Or.inr (Or.inl (Or.inl E1))
                | exact Or.inr (Or.inr (Or.inl (Or.inl E1)))
                | exact Or.inr (Or.inr (Or.inr (Or.inl E1)))
              refine kv_iconst dX8_areTied_66 1 ki_1 ?_
              exact kv_zret dX8_areTied_67 rfl kv_z1 ⟨by rw [if_pos H], rfl⟩
            · have ne1 := fun q => h6 (congrArg nI q)
              refine kv_aload_n dX8_areTied_40 rfl ?_
              refine kw_gR dX8_areTied_41 fX8_18 hu (by first | rfl | assumption) rfl rfl (by first | rfl | assumption) ?_
              refine kw_gR dX8_areTied_44 fX8_68 hu (by first | rfl | assumption) rfl rfl (by first | rfl | assumption) ?_
              refine kv_iload dX8_areTied_47 rfl ?_
              refine kw_al (t := 0) (n := 30) dX8_areTied_49 hu rfl rfl (_) rfl (by omega) rfl (by first | rfl | assumption) ?_
              refine kv_aload_n dX8_areTied_50 rfl ?_
              refine kw_gR dX8_areTied_51 fX8_18 hu (by first | rfl | assumption) rfl rfl (by first | rfl | assumption) ?_
              refine kw_gR dX8_areTied_54 fX8_68 hu (by first | rfl | assumption) rfl rfl (by first | rfl | assumption) ?_
              refine kv_iload dX8_areTied_57 rfl ?_
              refine kw_al (t := 0) (n := 30) dX8_areTied_59 hu rfl rfl (_) rfl (by omega) rfl (by first | rfl | assumption) ?_
              refine kw_Vi [_] mX0_marksLike dX8_areTied_60 lX8_71 wX0_marksLike kC0 hu rfl (by first | rfl | assumption) rfl rfl rfl (by first | exact qX0_marksLike hu hr hg (kCarOf g a 0) (kCarOf g b 0) ca0.2 cb0.2 | exact qX0_marksLike hu hr hg (kCarOf g a 0) (kCarOf g b 1) ca0.2 cb1.2 | exact qX0_marksLike hu hr hg (kCarOf g a 1) (kCarOf g b 0) ca1.2 cb0.2 | exact qX0_marksLike hu hr hg (kCarOf g a 1) (kCarOf g b 1) ca1.2 cb1.2 ) (by decide) ?_
              refine kw_beq dX8_areTied_63 68 (by decide) (fun h7 => ?_) (fun h7 => ?_)
              · have ne2 := h7
                refine kv_iinc (ls2 := [_, _, _, _, _, _, _]) dX8_areTied_68 (2 : Int32) rfl rfl rfl rfl rfl rfl ?_
                refine kv_goto dX8_areTied_71 10 (by decide) ?_
                refine kv_iload dX8_areTied_10 rfl ?_
                refine kv_iconst dX8_areTied_12 2 ki_2 ?_
                refine kv_icmp_ge dX8_areTied_13 74 (by decide) (fun h8 => ?_) (fun h8 => ?_)
                · refine kv_iinc (ls2 := [_, _, _, _, _, _, _]) dX8_areTied_74 (1 : Int32) rfl rfl rfl rfl rfl rfl ?_
                  refine kv_goto dX8_areTied_77 2 (by decide) ?_
                  refine kv_iload_n dX8_areTied_2 rfl ?_
                  refine kv_iconst dX8_areTied_3 2 ki_2 ?_
                  refine kv_icmp_ge dX8_areTied_4 80 (by decide) (fun h9 => ?_) (fun h9 => ?_)
                  · exact absurd h9 (by decide)
                  · refine kv_iconst dX8_areTied_7 0 ki_0 ?_
                    refine kv_istore (ls2 := [_, _, _, _, _, _, _]) dX8_areTied_8 rfl rfl rfl rfl ?_
                    refine kv_iload dX8_areTied_10 rfl ?_
                    refine kv_iconst dX8_areTied_12 2 ki_2 ?_
                    refine kv_icmp_ge dX8_areTied_13 74 (by decide) (fun h10 => ?_) (fun h10 => ?_)
                    · exact absurd h10 (by decide)
                    · refine kv_aload_n dX8_areTied_16 rfl ?_
                      refine kw_gR dX8_areTied_17 fX8_65 hu (by first | rfl | assumption) rfl rfl (by first | rfl | assumption) ?_
                      refine kv_iload_n dX8_areTied_20 rfl ?_
                      refine kw_il dX8_areTied_21 hu (by first | rfl | assumption) (_) (show (1 : Int32) = nI 1 from rfl) (by omega) rfl ?_
                      first | rw [hr.cc ha 0 (by omega), ca0.1] | rw [hr.cc ha 1 (by omega), ca1.1]
                      refine kv_istore (ls2 := [_, _, _, _, _, _, _]) dX8_areTied_22 rfl rfl rfl rfl ?_
                      refine kv_aload_n dX8_areTied_24 rfl ?_
                      refine kw_gR dX8_areTied_25 fX8_65 hu (by first | rfl | assumption) rfl rfl (by first | rfl | assumption) ?_
                      refine kv_iload dX8_areTied_28 rfl ?_
                      refine kw_il dX8_areTied_30 hu (by first | rfl | assumption) (_) (show (0 : Int32) = nI 0 from rfl) (by omega) rfl ?_
                      first | rw [hr.cc hb 0 (by omega), cb0.1] | rw [hr.cc hb 1 (by omega), cb1.1]
                      refine kv_istore (ls2 := [_, _, _, _, _, _, _]) dX8_areTied_31 rfl rfl rfl rfl ?_
                      refine kv_iload dX8_areTied_33 rfl ?_
                      refine kv_iload dX8_areTied_35 rfl ?_
                      refine kv_icmp_eq dX8_areTied_37 66 (by decide) (fun h11 => ?_) (fun h11 => ?_)
                      · have E1 := (nI_eq (by omega) (by omega)).mp h11
                        have H : kTie g a b := by
                          first
                          | exact Or.inl (Or.inl E1)
                          | exact Or.inr (Or.inl (Or.inl E1))
                          | exact Or.inr (Or.inr (Or.inl (Or.inl E1)))
                          | exact Or.inr (Or.inr (Or.inr (Or.inl E1)))
                        refine kv_iconst dX8_areTied_66 1 ki_1 ?_
                        exact kv_zret dX8_areTied_67 rfl kv_z1 ⟨by rw [if_pos H], rfl⟩
                      · have ne1 := fun q => h11 (congrArg nI q)
                        refine kv_aload_n dX8_areTied_40 rfl ?_
                        refine kw_gR dX8_areTied_41 fX8_18 hu (by first | rfl | assumption) rfl rfl (by first | rfl | assumption) ?_
                        refine kw_gR dX8_areTied_44 fX8_68 hu (by first | rfl | assumption) rfl rfl (by first | rfl | assumption) ?_
                        refine kv_iload dX8_areTied_47 rfl ?_
                        refine kw_al (t := 0) (n := 30) dX8_areTied_49 hu rfl rfl (_) rfl (by omega) rfl (by first | rfl | assumption) ?_
                        refine kv_aload_n dX8_areTied_50 rfl ?_
                        refine kw_gR dX8_areTied_51 fX8_18 hu (by first | rfl | assumption) rfl rfl (by first | rfl | assumption) ?_
                        refine kw_gR dX8_areTied_54 fX8_68 hu (by first | rfl | assumption) rfl rfl (by first | rfl | assumption) ?_
                        refine kv_iload dX8_areTied_57 rfl ?_
                        refine kw_al (t := 0) (n := 30) dX8_areTied_59 hu rfl rfl (_) rfl (by omega) rfl (by first | rfl | assumption) ?_
                        refine kw_Vi [_] mX0_marksLike dX8_areTied_60 lX8_71 wX0_marksLike kC0 hu rfl (by first | rfl | assumption) rfl rfl rfl (by first | exact qX0_marksLike hu hr hg (kCarOf g a 0) (kCarOf g b 0) ca0.2 cb0.2 | exact qX0_marksLike hu hr hg (kCarOf g a 0) (kCarOf g b 1) ca0.2 cb1.2 | exact qX0_marksLike hu hr hg (kCarOf g a 1) (kCarOf g b 0) ca1.2 cb0.2 | exact qX0_marksLike hu hr hg (kCarOf g a 1) (kCarOf g b 1) ca1.2 cb1.2 ) (by decide) ?_
                        refine kw_beq dX8_areTied_63 68 (by decide) (fun h12 => ?_) (fun h12 => ?_)
                        · have ne2 := h12
                          refine kv_iinc (ls2 := [_, _, _, _, _, _, _]) dX8_areTied_68 (1 : Int32) rfl rfl rfl rfl rfl rfl ?_
                          refine kv_goto dX8_areTied_71 10 (by decide) ?_
                          refine kv_iload dX8_areTied_10 rfl ?_
                          refine kv_iconst dX8_areTied_12 2 ki_2 ?_
                          refine kv_icmp_ge dX8_areTied_13 74 (by decide) (fun h13 => ?_) (fun h13 => ?_)
                          · exact absurd h13 (by decide)
                          · refine kv_aload_n dX8_areTied_16 rfl ?_
                            refine kw_gR dX8_areTied_17 fX8_65 hu (by first | rfl | assumption) rfl rfl (by first | rfl | assumption) ?_
                            refine kv_iload_n dX8_areTied_20 rfl ?_
                            refine kw_il dX8_areTied_21 hu (by first | rfl | assumption) (_) (show (1 : Int32) = nI 1 from rfl) (by omega) rfl ?_
                            first | rw [hr.cc ha 0 (by omega), ca0.1] | rw [hr.cc ha 1 (by omega), ca1.1]
                            refine kv_istore (ls2 := [_, _, _, _, _, _, _]) dX8_areTied_22 rfl rfl rfl rfl ?_
                            refine kv_aload_n dX8_areTied_24 rfl ?_
                            refine kw_gR dX8_areTied_25 fX8_65 hu (by first | rfl | assumption) rfl rfl (by first | rfl | assumption) ?_
                            refine kv_iload dX8_areTied_28 rfl ?_
                            refine kw_il dX8_areTied_30 hu (by first | rfl | assumption) (_) (show (1 : Int32) = nI 1 from rfl) (by omega) rfl ?_
                            first | rw [hr.cc hb 0 (by omega), cb0.1] | rw [hr.cc hb 1 (by omega), cb1.1]
                            refine kv_istore (ls2 := [_, _, _, _, _, _, _]) dX8_areTied_31 rfl rfl rfl rfl ?_
                            refine kv_iload dX8_areTied_33 rfl ?_
                            refine kv_iload dX8_areTied_35 rfl ?_
                            refine kv_icmp_eq dX8_areTied_37 66 (by decide) (fun h14 => ?_) (fun h14 => ?_)
                            · have E1 := (nI_eq (by omega) (by omega)).mp h14
                              have H : kTie g a b := by
                                first
                                | exact Or.inl (Or.inl E1)
                                | exact Or.inr (Or.inl (Or.inl E1))
                                | exact Or.inr (Or.inr (Or.inl (Or.inl E1)))
                                | exact Or.inr (Or.inr (Or.inr (Or.inl E1)))
                              refine kv_iconst dX8_areTied_66 1 ki_1 ?_
                              exact kv_zret dX8_areTied_67 rfl kv_z1 ⟨by rw [if_pos H], rfl⟩
                            · have ne1 := fun q => h14 (congrArg nI q)
                              refine kv_aload_n dX8_areTied_40 rfl ?_
                              refine kw_gR dX8_areTied_41 fX8_18 hu (by first | rfl | assumption) rfl rfl (by first | rfl | assumption) ?_
                              refine kw_gR dX8_areTied_44 fX8_68 hu (by first | rfl | assumption) rfl rfl (by first | rfl | assumption) ?_
                              refine kv_iload dX8_areTied_47 rfl ?_
                              refine kw_al (t := 0) (n := 30) dX8_areTied_49 hu rfl rfl (_) rfl (by omega) rfl (by first | rfl | assumption) ?_
                              refine kv_aload_n dX8_areTied_50 rfl ?_
                              refine kw_gR dX8_areTied_51 fX8_18 hu (by first | rfl | assumption) rfl rfl (by first | rfl | assumption) ?_
                              refine kw_gR dX8_areTied_54 fX8_68 hu (by first | rfl | assumption) rfl rfl (by first | rfl | assumption) ?_
                              refine kv_iload dX8_areTied_57 rfl ?_
                              refine kw_al (t := 0) (n := 30) dX8_areTied_59 hu rfl rfl (_) rfl (by omega) rfl (by first | rfl | assumption) ?_
                              refine kw_Vi [_] mX0_marksLike dX8_areTied_60 lX8_71 wX0_marksLike kC0 hu rfl (by first | rfl | assumption) rfl rfl rfl (by first | exact qX0_marksLike hu hr hg (kCarOf g a 0) (kCarOf g b 0) ca0.2 cb0.2 | exact qX0_marksLike hu hr hg (kCarOf g a 0) (kCarOf g b 1) ca0.2 cb1.2 | exact qX0_marksLike hu hr hg (kCarOf g a 1) (kCarOf g b 0) ca1.2 cb0.2 | exact qX0_marksLike hu hr hg (kCarOf g a 1) (kCarOf g b 1) ca1.2 cb1.2 ) (by decide) ?_
                              refine kw_beq dX8_areTied_63 68 (by decide) (fun h15 => ?_) (fun h15 => ?_)
                              · have ne2 := h15
                                refine kv_iinc (ls2 := [_, _, _, _, _, _, _]) dX8_areTied_68 (2 : Int32) rfl rfl rfl rfl rfl rfl ?_
                                refine kv_goto dX8_areTied_71 10 (by decide) ?_
                                refine kv_iload dX8_areTied_10 rfl ?_
                                refine kv_iconst dX8_areTied_12 2 ki_2 ?_
                                refine kv_icmp_ge dX8_areTied_13 74 (by decide) (fun h16 => ?_) (fun h16 => ?_)
                                · refine kv_iinc (ls2 := [_, _, _, _, _, _, _]) dX8_areTied_74 (2 : Int32) rfl rfl rfl rfl rfl rfl ?_
                                  refine kv_goto dX8_areTied_77 2 (by decide) ?_
                                  refine kv_iload_n dX8_areTied_2 rfl ?_
                                  refine kv_iconst dX8_areTied_3 2 ki_2 ?_
                                  refine kv_icmp_ge dX8_areTied_4 80 (by decide) (fun h17 => ?_) (fun h17 => ?_)
                                  · refine kv_iconst dX8_areTied_80 0 ki_0 ?_
                                    exact kv_zret dX8_areTied_81 rfl kv_z0 ⟨by rw [if_neg (by rintro ((q | q) | (q | q) | (q | q) | (q | q)) <;> contradiction)], rfl⟩
                                  · exact absurd h17 (by decide)
                                · exact absurd h16 (by decide)
                              · have E2 := h15
                                have H : kTie g a b := by
                                  first
                                  | exact Or.inl (Or.inr E2)
                                  | exact Or.inr (Or.inl (Or.inr E2))
                                  | exact Or.inr (Or.inr (Or.inl (Or.inr E2)))
                                  | exact Or.inr (Or.inr (Or.inr (Or.inr E2)))
                                refine kv_iconst dX8_areTied_66 1 ki_1 ?_
                                exact kv_zret dX8_areTied_67 rfl kv_z1 ⟨by rw [if_pos H], rfl⟩
                        · have E2 := h12
                          have H : kTie g a b := by
                            first
                            | exact Or.inl (Or.inr E2)
                            | exact Or.inr (Or.inl (Or.inr E2))
                            | exact Or.inr (Or.inr (Or.inl (Or.inr E2)))
                            | exact Or.inr (Or.inr (Or.inr (Or.inr E2)))
                          refine kv_iconst dX8_areTied_66 1 ki_1 ?_
                          exact kv_zret dX8_areTied_67 rfl kv_z1 ⟨by rw [if_pos H], rfl⟩
                · exact absurd h8 (by decide)
              · have E2 := h7
                have H : kTie g a b := by
                  first
                  | exact Or.inl (Or.inr E2)
                  | exact Or.inr (Or.inl (Or.inr E2))
                  | exact Or.inr (Or.inr (Or.inl (Or.inr E2)))
                  | exact Or.inr (Or.inr (Or.inr (Or.inr E2)))
                refine kv_iconst dX8_areTied_66 1 ki_1 ?_
                exact kv_zret dX8_areTied_67 rfl kv_z1 ⟨by rw [if_pos H], rfl⟩
        · have E2 := h4
          have H : kTie g a b := by
            first
            | exact Or.inl (Or.inr E2)
            | exact Or.inr (Or.inl (Or.inr E2))
            | exact Or.inr (Or.inr (Or.inl (Or.inr E2)))
            | exact Or.inr (Or.inr (Or.inr (Or.inr E2)))
          refine kv_iconst dX8_areTied_66 1 ki_1 ?_
          exact kv_zret dX8_areTied_67 rfl kv_z1 ⟨by rw [if_pos H], rfl⟩

set_option maxRecDepth 20000 in
set_option maxHeartbeats 4000000 in
theorem qX12_areTied {w : KW} {l : Launch} {u : KMem} (hu : kWd u) {g : Nat → Int32} (eg : u.2.1 414 = g) (hg : kGI g) (a b : Nat) (ha : a < kN g 2) (hb : b < kN g 2) : KC w l mX12_areTied 2 0 0 [.ref 413, .int (nI a), .int (nI b)] u (kq (some (.int (if kTie g a b then 1 else 0))) u) := by
  have hx20 := (hg.cnt (k := 2) rfl).2
  have hc30 := (hg.cnt (k := 0) rfl).2
  have hw := hg.cnt (k := 2) rfl
  refine KC.of (ls := [_, _, _, _, _, _, _, _, _]) rfl rfl (Nat.le_of_ble_eq_true rfl) ?_
  have ca0 := hg.carOf ha (s := 0) (by omega)
  have ca1 := hg.carOf ha (s := 1) (by omega)
  have cb0 := hg.carOf hb (s := 0) (by omega)
  have cb1 := hg.carOf hb (s := 1) (by omega)
  refine kv_iconst dX12_areTied_0 0 ki_0 ?_
  refine kv_istore_n (ls2 := [_, _, _, _, _, _, _, _, _]) dX12_areTied_1 rfl rfl rfl rfl ?_
  refine kv_iconst dX12_areTied_2 0 ki_0 ?_
  refine kv_istore (ls2 := [_, _, _, _, _, _, _, _, _]) dX12_areTied_3 rfl rfl rfl rfl ?_
  refine kv_iload dX12_areTied_5 rfl ?_
  refine kv_iconst dX12_areTied_7 4 ki_4 ?_
  refine kv_icmp_ge dX12_areTied_8 126 (by decide) (fun h1 => ?_) (fun h1 => ?_)
  · exact absurd h1 (by decide)
  · refine kv_aload_n dX12_areTied_11 rfl ?_
    refine kv_iload_n dX12_areTied_12 rfl ?_
    refine kv_iload dX12_areTied_13 rfl ?_
    refine kv_iconst dX12_areTied_15 2 ki_2 ?_
    refine kv_idiv dX12_areTied_16 (by decide) ?_
    rw [show ((0 : Int32) / 2) = 0 from rfl]
    refine kw_Vi [_, _] mX12_carOf dX12_areTied_17 lX12_116 wX12_carOf kC12 hu rfl (by first | rfl | assumption) rfl rfl rfl (gX12_carOf hu eg a 0 (by omega) (by omega)) (by decide) ?_
    first | rw [ca0.1] | rw [ca1.1]
    refine kv_istore (ls2 := [_, _, _, _, _, _, _, _, _]) dX12_areTied_20 rfl rfl rfl rfl ?_
    refine kv_aload_n dX12_areTied_22 rfl ?_
    refine kv_iload_n dX12_areTied_23 rfl ?_
    refine kv_iload dX12_areTied_24 rfl ?_
    refine kv_iconst dX12_areTied_26 2 ki_2 ?_
    refine kv_irem dX12_areTied_27 (by decide) ?_
    rw [show ((0 : Int32) - 0 / 2 * 2) = 0 from rfl]
    refine kw_Vi [_, _] mX12_carOf dX12_areTied_28 lX12_116 wX12_carOf kC12 hu rfl (by first | rfl | assumption) rfl rfl rfl (gX12_carOf hu eg b 0 (by omega) (by omega)) (by decide) ?_
    first | rw [cb0.1] | rw [cb1.1]
    refine kv_istore (ls2 := [_, _, _, _, _, _, _, _, _]) dX12_areTied_31 rfl rfl rfl rfl ?_
    refine kv_iconst dX12_areTied_33 0 ki_0 ?_
    refine kv_istore (ls2 := [_, _, _, _, _, _, _, _, _]) dX12_areTied_34 rfl rfl rfl rfl ?_
    refine kv_iconst dX12_areTied_36 0 ki_0 ?_
    refine kv_istore (ls2 := [_, _, _, _, _, _, _, _, _]) dX12_areTied_37 rfl rfl rfl rfl ?_
    refine KV.loc (ls2 := [some (.ref 413), some (.int (nI a)), some (.int (nI b)), some (.int 0), some (.int 0), some (.int (nI (kCarOf g a 0))), some (.int (nI (kCarOf g b 0))), some (.int (nI (kAlA g (kCarOf g a 0) (kCarOf g b 0) (0)))), some (.int (nI (0)))]) ?_ (ksS rfl (ksS rfl (ksS rfl (ksS rfl (ksS rfl (ksS rfl (ksS rfl (ksS rfl (ksS rfl ksN)))))))))
    refine kn_loop (P := fun m => KV w l mX12_areTied 2 0 0 39 [some (.ref 413), some (.int (nI a)), some (.int (nI b)), some (.int 0), some (.int 0), some (.int (nI (kCarOf g a 0))), some (.int (nI (kCarOf g b 0))), some (.int (nI (kAlA g (kCarOf g a 0) (kCarOf g b 0) (m)))), some (.int (nI (m)))] [] u (kq (some (.int (if kTie g a b then 1 else 0))) u)) (3) ?_ (fun m hm ih => ?_)
    · refine kv_iload dX12_areTied_39 rfl ?_
      refine kv_iconst dX12_areTied_41 3 ki_3 ?_
      refine kv_icmp_ge dX12_areTied_42 97 (by decide) (fun h2 => ?_) (fun h2 => ?_)
      · refine kv_iload_n dX12_areTied_97 rfl ?_
        refine kv_if_ne dX12_areTied_98 114 (by decide) (fun h3 => ?_) (fun h3 => ?_)
        · exact absurd h3 (by decide)
        · refine kv_iload dX12_areTied_101 rfl ?_
          refine kv_iload dX12_areTied_103 rfl ?_
          refine kv_icmp_eq dX12_areTied_105 114 (by decide) (fun h4 => ?_) (fun h4 => ?_)
          · have E1 : kCarOf g a 0 = kCarOf g b 0 := (nI_eq (by omega) (by omega)).mp h4
            have H : kTie g a b := by
              first
              | exact Or.inl (Or.inl E1)
              | exact Or.inr (Or.inl (Or.inl E1))
              | exact Or.inr (Or.inr (Or.inl (Or.inl E1)))
              | exact Or.inr (Or.inr (Or.inr (Or.inl E1)))
            refine kv_iconst dX12_areTied_114 1 ki_1 ?_
            refine kv_goto dX12_areTied_115 119 (by decide) ?_
            refine kv_istore_n (ls2 := [_, _, _, _, _, _, _, _, _]) dX12_areTied_119 rfl rfl rfl rfl ?_
            refine kv_iinc (ls2 := [_, _, _, _, _, _, _, _, _]) dX12_areTied_120 (1 : Int32) rfl rfl rfl rfl rfl rfl ?_
            refine kv_goto dX12_areTied_123 5 (by decide) ?_
            refine kv_iload dX12_areTied_5 rfl ?_
            refine kv_iconst dX12_areTied_7 4 ki_4 ?_
            refine kv_icmp_ge dX12_areTied_8 126 (by decide) (fun h5 => ?_) (fun h5 => ?_)
            · exact absurd h5 (by decide)
            · refine kv_aload_n dX12_areTied_11 rfl ?_
              refine kv_iload_n dX12_areTied_12 rfl ?_
              refine kv_iload dX12_areTied_13 rfl ?_
              refine kv_iconst dX12_areTied_15 2 ki_2 ?_
              refine kv_idiv dX12_areTied_16 (by decide) ?_
              rw [show ((1 : Int32) / 2) = 0 from rfl]
              refine kw_Vi [_, _] mX12_carOf dX12_areTied_17 lX12_116 wX12_carOf kC12 hu rfl (by first | rfl | assumption) rfl rfl rfl (gX12_carOf hu eg a 0 (by omega) (by omega)) (by decide) ?_
              first | rw [ca0.1] | rw [ca1.1]
              refine kv_istore (ls2 := [_, _, _, _, _, _, _, _, _]) dX12_areTied_20 rfl rfl rfl rfl ?_
              refine kv_aload_n dX12_areTied_22 rfl ?_
              refine kv_iload_n dX12_areTied_23 rfl ?_
              refine kv_iload dX12_areTied_24 rfl ?_
              refine kv_iconst dX12_areTied_26 2 ki_2 ?_
              refine kv_irem dX12_areTied_27 (by decide) ?_
              rw [show ((1 : Int32) - 1 / 2 * 2) = 1 from rfl]
              refine kw_Vi [_, _] mX12_carOf dX12_areTied_28 lX12_116 wX12_carOf kC12 hu rfl (by first | rfl | assumption) rfl rfl rfl (gX12_carOf hu eg b 1 (by omega) (by omega)) (by decide) ?_
              first | rw [cb0.1] | rw [cb1.1]
              refine kv_istore (ls2 := [_, _, _, _, _, _, _, _, _]) dX12_areTied_31 rfl rfl rfl rfl ?_
              refine kv_iconst dX12_areTied_33 0 ki_0 ?_
              refine kv_istore (ls2 := [_, _, _, _, _, _, _, _, _]) dX12_areTied_34 rfl rfl rfl rfl ?_
              refine kv_iconst dX12_areTied_36 0 ki_0 ?_
              refine kv_istore (ls2 := [_, _, _, _, _, _, _, _, _]) dX12_areTied_37 rfl rfl rfl rfl ?_
              refine KV.loc (ls2 := [some (.ref 413), some (.int (nI a)), some (.int (nI b)), some (.int 1), some (.int 1), some (.int (nI (kCarOf g a 0))), some (.int (nI (kCarOf g b 1))), some (.int (nI (kAlA g (kCarOf g a 0) (kCarOf g b 1) (0)))), some (.int (nI (0)))]) ?_ (ksS rfl (ksS rfl (ksS rfl (ksS rfl (ksS rfl (ksS rfl (ksS rfl (ksS rfl (ksS rfl ksN)))))))))
              refine kn_loop (P := fun m => KV w l mX12_areTied 2 0 0 39 [some (.ref 413), some (.int (nI a)), some (.int (nI b)), some (.int 1), some (.int 1), some (.int (nI (kCarOf g a 0))), some (.int (nI (kCarOf g b 1))), some (.int (nI (kAlA g (kCarOf g a 0) (kCarOf g b 1) (m)))), some (.int (nI (m)))] [] u (kq (some (.int (if kTie g a b then 1 else 0))) u)) (3) ?_ (fun m hm ih => ?_)
              · refine kv_iload dX12_areTied_39 rfl ?_
                refine kv_iconst dX12_areTied_41 3 ki_3 ?_
                refine kv_icmp_ge dX12_areTied_42 97 (by decide) (fun h6 => ?_) (fun h6 => ?_)
                · refine kv_iload_n dX12_areTied_97 rfl ?_
                  refine kv_if_ne dX12_areTied_98 114 (by decide) (fun h7 => ?_) (fun h7 => ?_)
                  · refine kv_iconst dX12_areTied_114 1 ki_1 ?_
                    refine kv_goto dX12_areTied_115 119 (by decide) ?_
                    refine kv_istore_n (ls2 := [_, _, _, _, _, _, _, _, _]) dX12_areTied_119 rfl rfl rfl rfl ?_
                    refine kv_iinc (ls2 := [_, _, _, _, _, _, _, _, _]) dX12_areTied_120 (2 : Int32) rfl rfl rfl rfl rfl rfl ?_
                    refine kv_goto dX12_areTied_123 5 (by decide) ?_
                    refine kv_iload dX12_areTied_5 rfl ?_
                    refine kv_iconst dX12_areTied_7 4 ki_4 ?_
                    refine kv_icmp_ge dX12_areTied_8 126 (by decide) (fun h8 => ?_) (fun h8 => ?_)
                    · exact absurd h8 (by decide)
                    · refine kv_aload_n dX12_areTied_11 rfl ?_
                      refine kv_iload_n dX12_areTied_12 rfl ?_
                      refine kv_iload dX12_areTied_13 rfl ?_
                      refine kv_iconst dX12_areTied_15 2 ki_2 ?_
                      refine kv_idiv dX12_areTied_16 (by decide) ?_
                      rw [show ((2 : Int32) / 2) = 1 from rfl]
                      refine kw_Vi [_, _] mX12_carOf dX12_areTied_17 lX12_116 wX12_carOf kC12 hu rfl (by first | rfl | assumption) rfl rfl rfl (gX12_carOf hu eg a 1 (by omega) (by omega)) (by decide) ?_
                      first | rw [ca0.1] | rw [ca1.1]
                      refine kv_istore (ls2 := [_, _, _, _, _, _, _, _, _]) dX12_areTied_20 rfl rfl rfl rfl ?_
                      refine kv_aload_n dX12_areTied_22 rfl ?_
                      refine kv_iload_n dX12_areTied_23 rfl ?_
                      refine kv_iload dX12_areTied_24 rfl ?_
                      refine kv_iconst dX12_areTied_26 2 ki_2 ?_
                      refine kv_irem dX12_areTied_27 (by decide) ?_
                      rw [show ((2 : Int32) - 2 / 2 * 2) = 0 from rfl]
                      refine kw_Vi [_, _] mX12_carOf dX12_areTied_28 lX12_116 wX12_carOf kC12 hu rfl (by first | rfl | assumption) rfl rfl rfl (gX12_carOf hu eg b 0 (by omega) (by omega)) (by decide) ?_
                      first | rw [cb0.1] | rw [cb1.1]
                      refine kv_istore (ls2 := [_, _, _, _, _, _, _, _, _]) dX12_areTied_31 rfl rfl rfl rfl ?_
                      refine kv_iconst dX12_areTied_33 0 ki_0 ?_
                      refine kv_istore (ls2 := [_, _, _, _, _, _, _, _, _]) dX12_areTied_34 rfl rfl rfl rfl ?_
                      refine kv_iconst dX12_areTied_36 0 ki_0 ?_
                      refine kv_istore (ls2 := [_, _, _, _, _, _, _, _, _]) dX12_areTied_37 rfl rfl rfl rfl ?_
                      refine KV.loc (ls2 := [some (.ref 413), some (.int (nI a)), some (.int (nI b)), some (.int 1), some (.int 2), some (.int (nI (kCarOf g a 1))), some (.int (nI (kCarOf g b 0))), some (.int (nI (kAlA g (kCarOf g a 1) (kCarOf g b 0) (0)))), some (.int (nI (0)))]) ?_ (ksS rfl (ksS rfl (ksS rfl (ksS rfl (ksS rfl (ksS rfl (ksS rfl (ksS rfl (ksS rfl ksN)))))))))
                      refine kn_loop (P := fun m => KV w l mX12_areTied 2 0 0 39 [some (.ref 413), some (.int (nI a)), some (.int (nI b)), some (.int 1), some (.int 2), some (.int (nI (kCarOf g a 1))), some (.int (nI (kCarOf g b 0))), some (.int (nI (kAlA g (kCarOf g a 1) (kCarOf g b 0) (m)))), some (.int (nI (m)))] [] u (kq (some (.int (if kTie g a b then 1 else 0))) u)) (3) ?_ (fun m hm ih => ?_)
                      · refine kv_iload dX12_areTied_39 rfl ?_
                        refine kv_iconst dX12_areTied_41 3 ki_3 ?_
                        refine kv_icmp_ge dX12_areTied_42 97 (by decide) (fun h9 => ?_) (fun h9 => ?_)
                        · refine kv_iload_n dX12_areTied_97 rfl ?_
                          refine kv_if_ne dX12_areTied_98 114 (by decide) (fun h10 => ?_) (fun h10 => ?_)
                          · refine kv_iconst dX12_areTied_114 1 ki_1 ?_
                            refine kv_goto dX12_areTied_115 119 (by decide) ?_
                            refine kv_istore_n (ls2 := [_, _, _, _, _, _, _, _, _]) dX12_areTied_119 rfl rfl rfl rfl ?_
                            refine kv_iinc (ls2 := [_, _, _, _, _, _, _, _, _]) dX12_areTied_120 (3 : Int32) rfl rfl rfl rfl rfl rfl ?_
                            refine kv_goto dX12_areTied_123 5 (by decide) ?_
                            refine kv_iload dX12_areTied_5 rfl ?_
                            refine kv_iconst dX12_areTied_7 4 ki_4 ?_
                            refine kv_icmp_ge dX12_areTied_8 126 (by decide) (fun h11 => ?_) (fun h11 => ?_)
                            · exact absurd h11 (by decide)
                            · refine kv_aload_n dX12_areTied_11 rfl ?_
                              refine kv_iload_n dX12_areTied_12 rfl ?_
                              refine kv_iload dX12_areTied_13 rfl ?_
                              refine kv_iconst dX12_areTied_15 2 ki_2 ?_
                              refine kv_idiv dX12_areTied_16 (by decide) ?_
                              rw [show ((3 : Int32) / 2) = 1 from rfl]
                              refine kw_Vi [_, _] mX12_carOf dX12_areTied_17 lX12_116 wX12_carOf kC12 hu rfl (by first | rfl | assumption) rfl rfl rfl (gX12_carOf hu eg a 1 (by omega) (by omega)) (by decide) ?_
                              first | rw [ca0.1] | rw [ca1.1]
                              refine kv_istore (ls2 := [_, _, _, _, _, _, _, _, _]) dX12_areTied_20 rfl rfl rfl rfl ?_
                              refine kv_aload_n dX12_areTied_22 rfl ?_
                              refine kv_iload_n dX12_areTied_23 rfl ?_
                              refine kv_iload dX12_areTied_24 rfl ?_
                              refine kv_iconst dX12_areTied_26 2 ki_2 ?_
                              refine kv_irem dX12_areTied_27 (by decide) ?_
                              rw [show ((3 : Int32) - 3 / 2 * 2) = 1 from rfl]
                              refine kw_Vi [_, _] mX12_carOf dX12_areTied_28 lX12_116 wX12_carOf kC12 hu rfl (by first | rfl | assumption) rfl rfl rfl (gX12_carOf hu eg b 1 (by omega) (by omega)) (by decide) ?_
                              first | rw [cb0.1] | rw [cb1.1]
                              refine kv_istore (ls2 := [_, _, _, _, _, _, _, _, _]) dX12_areTied_31 rfl rfl rfl rfl ?_
                              refine kv_iconst dX12_areTied_33 0 ki_0 ?_
                              refine kv_istore (ls2 := [_, _, _, _, _, _, _, _, _]) dX12_areTied_34 rfl rfl rfl rfl ?_
                              refine kv_iconst dX12_areTied_36 0 ki_0 ?_
                              refine kv_istore (ls2 := [_, _, _, _, _, _, _, _, _]) dX12_areTied_37 rfl rfl rfl rfl ?_
                              refine KV.loc (ls2 := [some (.ref 413), some (.int (nI a)), some (.int (nI b)), some (.int 1), some (.int 3), some (.int (nI (kCarOf g a 1))), some (.int (nI (kCarOf g b 1))), some (.int (nI (kAlA g (kCarOf g a 1) (kCarOf g b 1) (0)))), some (.int (nI (0)))]) ?_ (ksS rfl (ksS rfl (ksS rfl (ksS rfl (ksS rfl (ksS rfl (ksS rfl (ksS rfl (ksS rfl ksN)))))))))
                              refine kn_loop (P := fun m => KV w l mX12_areTied 2 0 0 39 [some (.ref 413), some (.int (nI a)), some (.int (nI b)), some (.int 1), some (.int 3), some (.int (nI (kCarOf g a 1))), some (.int (nI (kCarOf g b 1))), some (.int (nI (kAlA g (kCarOf g a 1) (kCarOf g b 1) (m)))), some (.int (nI (m)))] [] u (kq (some (.int (if kTie g a b then 1 else 0))) u)) (3) ?_ (fun m hm ih => ?_)
                              · refine kv_iload dX12_areTied_39 rfl ?_
                                refine kv_iconst dX12_areTied_41 3 ki_3 ?_
                                refine kv_icmp_ge dX12_areTied_42 97 (by decide) (fun h12 => ?_) (fun h12 => ?_)
                                · refine kv_iload_n dX12_areTied_97 rfl ?_
                                  refine kv_if_ne dX12_areTied_98 114 (by decide) (fun h13 => ?_) (fun h13 => ?_)
                                  · refine kv_iconst dX12_areTied_114 1 ki_1 ?_
                                    refine kv_goto dX12_areTied_115 119 (by decide) ?_
                                    refine kv_istore_n (ls2 := [_, _, _, _, _, _, _, _, _]) dX12_areTied_119 rfl rfl rfl rfl ?_
                                    refine kv_iinc (ls2 := [_, _, _, _, _, _, _, _, _]) dX12_areTied_120 (4 : Int32) rfl rfl rfl rfl rfl rfl ?_
                                    refine kv_goto dX12_areTied_123 5 (by decide) ?_
                                    refine kv_iload dX12_areTied_5 rfl ?_
                                    refine kv_iconst dX12_areTied_7 4 ki_4 ?_
                                    refine kv_icmp_ge dX12_areTied_8 126 (by decide) (fun h14 => ?_) (fun h14 => ?_)
                                    · refine kv_iload_n dX12_areTied_126 rfl ?_
                                      exact kv_zret dX12_areTied_127 rfl kv_z1 (by first | exact ⟨by rw [if_pos H], rfl⟩ | exact ⟨by rw [if_neg (by rintro ((q | q) | (q | q) | (q | q) | (q | q)) <;> contradiction)], rfl⟩)
                                    · exact absurd h14 (by decide)
                                  · exact absurd h13 (by decide)
                                · exact absurd (Int32.le_refl (nI 3)) h12
                              · have e1 : kAlA g (kCarOf g a 1) (kCarOf g b 1) (m + 1) = kAlA g (kCarOf g a 1) (kCarOf g b 1) m + (if ¬ g (40 + 8 * (kCarOf g a 1) + (5 + m)) < 0 ∧ g (40 + 8 * (kCarOf g a 1) + (5 + m)) = g (40 + 8 * (kCarOf g b 1) + (5 + m)) then 1 else 0) := rfl
                                refine kv_iload dX12_areTied_39 rfl ?_
                                refine kv_iconst dX12_areTied_41 3 ki_3 ?_
                                refine kv_icmp_ge dX12_areTied_42 97 (by decide) (fun h15 => ?_) (fun h15 => ?_)
                                · exact absurd h15 (kn_ge (n := 3) hm (by omega))
                                · refine kv_iload dX12_areTied_45 rfl ?_
                                  refine kv_aload_n dX12_areTied_47 rfl ?_
                                  refine kv_iload dX12_areTied_48 rfl ?_
                                  refine kv_iconst dX12_areTied_50 5 ki_5 ?_
                                  refine kv_iload dX12_areTied_51 rfl ?_
                                  refine kv_iadd dX12_areTied_53 ?_
                                  rw [show (5 + nI m : Int32) = nI (5 + m) from kn_add (show (5 : Int32) = nI 5 from rfl) rfl]
                                  refine kw_Vi [_, _] mX12_car dX12_areTied_54 lX12_89 wX12_car kC12 hu rfl (by first | rfl | assumption) rfl rfl rfl (by first | exact gX12_car hu eg (kCarOf g a 0) (5 + m) (by omega) (by omega) | exact gX12_car hu eg (kCarOf g a 1) (5 + m) (by omega) (by omega) ) (by decide) ?_
                                  refine kv_if_lt dX12_areTied_57 87 (by decide) (fun h16 => ?_) (fun h16 => ?_)
                                  · have hq : ¬ (¬ g (40 + 8 * (kCarOf g a 1) + (5 + m)) < 0 ∧ g (40 + 8 * (kCarOf g a 1) + (5 + m)) = g (40 + 8 * (kCarOf g b 1) + (5 + m))) := fun q => q.1 h16
                                    refine kv_iconst dX12_areTied_87 0 ki_0 ?_
                                    refine kv_iadd dX12_areTied_88 ?_
                                    refine kv_istore (ls2 := [_, _, _, _, _, _, _, _, _]) dX12_areTied_89 rfl rfl rfl rfl ?_
                                    refine kv_iinc (ls2 := [_, _, _, _, _, _, _, _, _]) dX12_areTied_91 (nI (m + 1)) rfl (kv_inc1 m) rfl rfl rfl rfl ?_
                                    refine kv_goto dX12_areTied_94 39 (by decide) ?_
                                    exact KV.loc ih (ksS (by first | rfl | exact congrArg (fun z => some (Value.int z)) ((kn_add rfl (show (1 : Int32) = nI 1 from rfl)).trans (congrArg nI (by rw [e1, if_pos hq]))) | exact congrArg (fun z => some (Value.int z)) ((kn_add rfl (show (0 : Int32) = nI 0 from rfl)).trans (congrArg nI (by rw [e1, if_neg hq])))) (ksS (by first | rfl | exact congrArg (fun z => some (Value.int z)) ((kn_add rfl (show (1 : Int32) = nI 1 from rfl)).trans (congrArg nI (by rw [e1, if_pos hq]))) | exact congrArg (fun z => some (Value.int z)) ((kn_add rfl (show (0 : Int32) = nI 0 from rfl)).trans (congrArg nI (by rw [e1, if_neg hq])))) (ksS (by first | rfl | exact congrArg (fun z => some (Value.int z)) ((kn_add rfl (show (1 : Int32) = nI 1 from rfl)).trans (congrArg nI (by rw [e1, if_pos hq]))) | exact congrArg (fun z => some (Value.int z)) ((kn_add rfl (show (0 : Int32) = nI 0 from rfl)).trans (congrArg nI (by rw [e1, if_neg hq])))) (ksS (by first | rfl | exact congrArg (fun z => some (Value.int z)) ((kn_add rfl (show (1 : Int32) = nI 1 from rfl)).trans (congrArg nI (by rw [e1, if_pos hq]))) | exact congrArg (fun z => some (Value.int z)) ((kn_add rfl (show (0 : Int32) = nI 0 from rfl)).trans (congrArg nI (by rw [e1, if_neg hq])))) (ksS (by first | rfl | exact congrArg (fun z => some (Value.int z)) ((kn_add rfl (show (1 : Int32) = nI 1 from rfl)).trans (congrArg nI (by rw [e1, if_pos hq]))) | exact congrArg (fun z => some (Value.int z)) ((kn_add rfl (show (0 : Int32) = nI 0 from rfl)).trans (congrArg nI (by rw [e1, if_neg hq])))) (ksS (by first | rfl | exact congrArg (fun z => some (Value.int z)) ((kn_add rfl (show (1 : Int32) = nI 1 from rfl)).trans (congrArg nI (by rw [e1, if_pos hq]))) | exact congrArg (fun z => some (Value.int z)) ((kn_add rfl (show (0 : Int32) = nI 0 from rfl)).trans (congrArg nI (by rw [e1, if_neg hq])))) (ksS (by first | rfl | exact congrArg (fun z => some (Value.int z)) ((kn_add rfl (show (1 : Int32) = nI 1 from rfl)).trans (congrArg nI (by rw [e1, if_pos hq]))) | exact congrArg (fun z => some (Value.int z)) ((kn_add rfl (show (0 : Int32) = nI 0 from rfl)).trans (congrArg nI (by rw [e1, if_neg hq])))) (ksS (by first | rfl | exact congrArg (fun z => some (Value.int z)) ((kn_add rfl (show (1 : Int32) = nI 1 from rfl)).trans (congrArg nI (by rw [e1, if_pos hq]))) | exact congrArg (fun z => some (Value.int z)) ((kn_add rfl (show (0 : Int32) = nI 0 from rfl)).trans (congrArg nI (by rw [e1, if_neg hq])))) (ksS (by first | rfl | exact congrArg (fun z => some (Value.int z)) ((kn_add rfl (show (1 : Int32) = nI 1 from rfl)).trans (congrArg nI (by rw [e1, if_pos hq]))) | exact congrArg (fun z => some (Value.int z)) ((kn_add rfl (show (0 : Int32) = nI 0 from rfl)).trans (congrArg nI (by rw [e1, if_neg hq])))) ksN)))))))))
                                  · have h0 := h16
                                    refine kv_aload_n dX12_areTied_60 rfl ?_
                                    refine kv_iload dX12_areTied_61 rfl ?_
                                    refine kv_iconst dX12_areTied_63 5 ki_5 ?_
                                    refine kv_iload dX12_areTied_64 rfl ?_
                                    refine kv_iadd dX12_areTied_66 ?_
                                    rw [show (5 + nI m : Int32) = nI (5 + m) from kn_add (show (5 : Int32) = nI 5 from rfl) rfl]
                                    refine kw_Vi [_, _] mX12_car dX12_areTied_67 lX12_89 wX12_car kC12 hu rfl (by first | rfl | assumption) rfl rfl rfl (by first | exact gX12_car hu eg (kCarOf g a 0) (5 + m) (by omega) (by omega) | exact gX12_car hu eg (kCarOf g a 1) (5 + m) (by omega) (by omega) ) (by decide) ?_
                                    refine kv_aload_n dX12_areTied_70 rfl ?_
                                    refine kv_iload dX12_areTied_71 rfl ?_
                                    refine kv_iconst dX12_areTied_73 5 ki_5 ?_
                                    refine kv_iload dX12_areTied_74 rfl ?_
                                    refine kv_iadd dX12_areTied_76 ?_
                                    rw [show (5 + nI m : Int32) = nI (5 + m) from kn_add (show (5 : Int32) = nI 5 from rfl) rfl]
                                    refine kw_Vi [_, _] mX12_car dX12_areTied_77 lX12_89 wX12_car kC12 hu rfl (by first | rfl | assumption) rfl rfl rfl (by first | exact gX12_car hu eg (kCarOf g b 0) (5 + m) (by omega) (by omega) | exact gX12_car hu eg (kCarOf g b 1) (5 + m) (by omega) (by omega) ) (by decide) ?_
                                    refine kv_icmp_ne dX12_areTied_80 87 (by decide) (fun h17 => ?_) (fun h17 => ?_)
                                    · have hq : ¬ (¬ g (40 + 8 * (kCarOf g a 1) + (5 + m)) < 0 ∧ g (40 + 8 * (kCarOf g a 1) + (5 + m)) = g (40 + 8 * (kCarOf g b 1) + (5 + m))) := fun q => h17 q.2
                                      refine kv_iconst dX12_areTied_87 0 ki_0 ?_
                                      refine kv_iadd dX12_areTied_88 ?_
                                      refine kv_istore (ls2 := [_, _, _, _, _, _, _, _, _]) dX12_areTied_89 rfl rfl rfl rfl ?_
                                      refine kv_iinc (ls2 := [_, _, _, _, _, _, _, _, _]) dX12_areTied_91 (nI (m + 1)) rfl (kv_inc1 m) rfl rfl rfl rfl ?_
                                      refine kv_goto dX12_areTied_94 39 (by decide) ?_
                                      exact KV.loc ih (ksS (by first | rfl | exact congrArg (fun z => some (Value.int z)) ((kn_add rfl (show (1 : Int32) = nI 1 from rfl)).trans (congrArg nI (by rw [e1, if_pos hq]))) | exact congrArg (fun z => some (Value.int z)) ((kn_add rfl (show (0 : Int32) = nI 0 from rfl)).trans (congrArg nI (by rw [e1, if_neg hq])))) (ksS (by first | rfl | exact congrArg (fun z => some (Value.int z)) ((kn_add rfl (show (1 : Int32) = nI 1 from rfl)).trans (congrArg nI (by rw [e1, if_pos hq]))) | exact congrArg (fun z => some (Value.int z)) ((kn_add rfl (show (0 : Int32) = nI 0 from rfl)).trans (congrArg nI (by rw [e1, if_neg hq])))) (ksS (by first | rfl | exact congrArg (fun z => some (Value.int z)) ((kn_add rfl (show (1 : Int32) = nI 1 from rfl)).trans (congrArg nI (by rw [e1, if_pos hq]))) | exact congrArg (fun z => some (Value.int z)) ((kn_add rfl (show (0 : Int32) = nI 0 from rfl)).trans (congrArg nI (by rw [e1, if_neg hq])))) (ksS (by first | rfl | exact congrArg (fun z => some (Value.int z)) ((kn_add rfl (show (1 : Int32) = nI 1 from rfl)).trans (congrArg nI (by rw [e1, if_pos hq]))) | exact congrArg (fun z => some (Value.int z)) ((kn_add rfl (show (0 : Int32) = nI 0 from rfl)).trans (congrArg nI (by rw [e1, if_neg hq])))) (ksS (by first | rfl | exact congrArg (fun z => some (Value.int z)) ((kn_add rfl (show (1 : Int32) = nI 1 from rfl)).trans (congrArg nI (by rw [e1, if_pos hq]))) | exact congrArg (fun z => some (Value.int z)) ((kn_add rfl (show (0 : Int32) = nI 0 from rfl)).trans (congrArg nI (by rw [e1, if_neg hq])))) (ksS (by first | rfl | exact congrArg (fun z => some (Value.int z)) ((kn_add rfl (show (1 : Int32) = nI 1 from rfl)).trans (congrArg nI (by rw [e1, if_pos hq]))) | exact congrArg (fun z => some (Value.int z)) ((kn_add rfl (show (0 : Int32) = nI 0 from rfl)).trans (congrArg nI (by rw [e1, if_neg hq])))) (ksS (by first | rfl | exact congrArg (fun z => some (Value.int z)) ((kn_add rfl (show (1 : Int32) = nI 1 from rfl)).trans (congrArg nI (by rw [e1, if_pos hq]))) | exact congrArg (fun z => some (Value.int z)) ((kn_add rfl (show (0 : Int32) = nI 0 from rfl)).trans (congrArg nI (by rw [e1, if_neg hq])))) (ksS (by first | rfl | exact congrArg (fun z => some (Value.int z)) ((kn_add rfl (show (1 : Int32) = nI 1 from rfl)).trans (congrArg nI (by rw [e1, if_pos hq]))) | exact congrArg (fun z => some (Value.int z)) ((kn_add rfl (show (0 : Int32) = nI 0 from rfl)).trans (congrArg nI (by rw [e1, if_neg hq])))) (ksS (by first | rfl | exact congrArg (fun z => some (Value.int z)) ((kn_add rfl (show (1 : Int32) = nI 1 from rfl)).trans (congrArg nI (by rw [e1, if_pos hq]))) | exact congrArg (fun z => some (Value.int z)) ((kn_add rfl (show (0 : Int32) = nI 0 from rfl)).trans (congrArg nI (by rw [e1, if_neg hq])))) ksN)))))))))
                                    · have hq : ¬ g (40 + 8 * (kCarOf g a 1) + (5 + m)) < 0 ∧ g (40 + 8 * (kCarOf g a 1) + (5 + m)) = g (40 + 8 * (kCarOf g b 1) + (5 + m)) := ⟨h0, h17⟩
                                      refine kv_iconst dX12_areTied_83 1 ki_1 ?_
                                      refine kv_goto dX12_areTied_84 88 (by decide) ?_
                                      refine kv_iadd dX12_areTied_88 ?_
                                      refine kv_istore (ls2 := [_, _, _, _, _, _, _, _, _]) dX12_areTied_89 rfl rfl rfl rfl ?_
                                      refine kv_iinc (ls2 := [_, _, _, _, _, _, _, _, _]) dX12_areTied_91 (nI (m + 1)) rfl (kv_inc1 m) rfl rfl rfl rfl ?_
                                      refine kv_goto dX12_areTied_94 39 (by decide) ?_
                                      exact KV.loc ih (ksS (by first | rfl | exact congrArg (fun z => some (Value.int z)) ((kn_add rfl (show (1 : Int32) = nI 1 from rfl)).trans (congrArg nI (by rw [e1, if_pos hq]))) | exact congrArg (fun z => some (Value.int z)) ((kn_add rfl (show (0 : Int32) = nI 0 from rfl)).trans (congrArg nI (by rw [e1, if_neg hq])))) (ksS (by first | rfl | exact congrArg (fun z => some (Value.int z)) ((kn_add rfl (show (1 : Int32) = nI 1 from rfl)).trans (congrArg nI (by rw [e1, if_pos hq]))) | exact congrArg (fun z => some (Value.int z)) ((kn_add rfl (show (0 : Int32) = nI 0 from rfl)).trans (congrArg nI (by rw [e1, if_neg hq])))) (ksS (by first | rfl | exact congrArg (fun z => some (Value.int z)) ((kn_add rfl (show (1 : Int32) = nI 1 from rfl)).trans (congrArg nI (by rw [e1, if_pos hq]))) | exact congrArg (fun z => some (Value.int z)) ((kn_add rfl (show (0 : Int32) = nI 0 from rfl)).trans (congrArg nI (by rw [e1, if_neg hq])))) (ksS (by first | rfl | exact congrArg (fun z => some (Value.int z)) ((kn_add rfl (show (1 : Int32) = nI 1 from rfl)).trans (congrArg nI (by rw [e1, if_pos hq]))) | exact congrArg (fun z => some (Value.int z)) ((kn_add rfl (show (0 : Int32) = nI 0 from rfl)).trans (congrArg nI (by rw [e1, if_neg hq])))) (ksS (by first | rfl | exact congrArg (fun z => some (Value.int z)) ((kn_add rfl (show (1 : Int32) = nI 1 from rfl)).trans (congrArg nI (by rw [e1, if_pos hq]))) | exact congrArg (fun z => some (Value.int z)) ((kn_add rfl (show (0 : Int32) = nI 0 from rfl)).trans (congrArg nI (by rw [e1, if_neg hq])))) (ksS (by first | rfl | exact congrArg (fun z => some (Value.int z)) ((kn_add rfl (show (1 : Int32) = nI 1 from rfl)).trans (congrArg nI (by rw [e1, if_pos hq]))) | exact congrArg (fun z => some (Value.int z)) ((kn_add rfl (show (0 : Int32) = nI 0 from rfl)).trans (congrArg nI (by rw [e1, if_neg hq])))) (ksS (by first | rfl | exact congrArg (fun z => some (Value.int z)) ((kn_add rfl (show (1 : Int32) = nI 1 from rfl)).trans (congrArg nI (by rw [e1, if_pos hq]))) | exact congrArg (fun z => some (Value.int z)) ((kn_add rfl (show (0 : Int32) = nI 0 from rfl)).trans (congrArg nI (by rw [e1, if_neg hq])))) (ksS (by first | rfl | exact congrArg (fun z => some (Value.int z)) ((kn_add rfl (show (1 : Int32) = nI 1 from rfl)).trans (congrArg nI (by rw [e1, if_pos hq]))) | exact congrArg (fun z => some (Value.int z)) ((kn_add rfl (show (0 : Int32) = nI 0 from rfl)).trans (congrArg nI (by rw [e1, if_neg hq])))) (ksS (by first | rfl | exact congrArg (fun z => some (Value.int z)) ((kn_add rfl (show (1 : Int32) = nI 1 from rfl)).trans (congrArg nI (by rw [e1, if_pos hq]))) | exact congrArg (fun z => some (Value.int z)) ((kn_add rfl (show (0 : Int32) = nI 0 from rfl)).trans (congrArg nI (by rw [e1, if_neg hq])))) ksN)))))))))
                          · exact absurd h10 (by decide)
                        · exact absurd (Int32.le_refl (nI 3)) h9
                      · have e1 : kAlA g (kCarOf g a 1) (kCarOf g b 0) (m + 1) = kAlA g (kCarOf g a 1) (kCarOf g b 0) m + (if ¬ g (40 + 8 * (kCarOf g a 1) + (5 + m)) < 0 ∧ g (40 + 8 * (kCarOf g a 1) + (5 + m)) = g (40 + 8 * (kCarOf g b 0) + (5 + m)) then 1 else 0) := rfl
                        refine kv_iload dX12_areTied_39 rfl ?_
                        refine kv_iconst dX12_areTied_41 3 ki_3 ?_
                        refine kv_icmp_ge dX12_areTied_42 97 (by decide) (fun h18 => ?_) (fun h18 => ?_)
                        · exact absurd h18 (kn_ge (n := 3) hm (by omega))
                        · refine kv_iload dX12_areTied_45 rfl ?_
                          refine kv_aload_n dX12_areTied_47 rfl ?_
                          refine kv_iload dX12_areTied_48 rfl ?_
                          refine kv_iconst dX12_areTied_50 5 ki_5 ?_
                          refine kv_iload dX12_areTied_51 rfl ?_
                          refine kv_iadd dX12_areTied_53 ?_
                          rw [show (5 + nI m : Int32) = nI (5 + m) from kn_add (show (5 : Int32) = nI 5 from rfl) rfl]
                          refine kw_Vi [_, _] mX12_car dX12_areTied_54 lX12_89 wX12_car kC12 hu rfl (by first | rfl | assumption) rfl rfl rfl (by first | exact gX12_car hu eg (kCarOf g a 0) (5 + m) (by omega) (by omega) | exact gX12_car hu eg (kCarOf g a 1) (5 + m) (by omega) (by omega) ) (by decide) ?_
                          refine kv_if_lt dX12_areTied_57 87 (by decide) (fun h19 => ?_) (fun h19 => ?_)
                          · have hq : ¬ (¬ g (40 + 8 * (kCarOf g a 1) + (5 + m)) < 0 ∧ g (40 + 8 * (kCarOf g a 1) + (5 + m)) = g (40 + 8 * (kCarOf g b 0) + (5 + m))) := fun q => q.1 h19
                            refine kv_iconst dX12_areTied_87 0 ki_0 ?_
                            refine kv_iadd dX12_areTied_88 ?_
                            refine kv_istore (ls2 := [_, _, _, _, _, _, _, _, _]) dX12_areTied_89 rfl rfl rfl rfl ?_
                            refine kv_iinc (ls2 := [_, _, _, _, _, _, _, _, _]) dX12_areTied_91 (nI (m + 1)) rfl (kv_inc1 m) rfl rfl rfl rfl ?_
                            refine kv_goto dX12_areTied_94 39 (by decide) ?_
                            exact KV.loc ih (ksS (by first | rfl | exact congrArg (fun z => some (Value.int z)) ((kn_add rfl (show (1 : Int32) = nI 1 from rfl)).trans (congrArg nI (by rw [e1, if_pos hq]))) | exact congrArg (fun z => some (Value.int z)) ((kn_add rfl (show (0 : Int32) = nI 0 from rfl)).trans (congrArg nI (by rw [e1, if_neg hq])))) (ksS (by first | rfl | exact congrArg (fun z => some (Value.int z)) ((kn_add rfl (show (1 : Int32) = nI 1 from rfl)).trans (congrArg nI (by rw [e1, if_pos hq]))) | exact congrArg (fun z => some (Value.int z)) ((kn_add rfl (show (0 : Int32) = nI 0 from rfl)).trans (congrArg nI (by rw [e1, if_neg hq])))) (ksS (by first | rfl | exact congrArg (fun z => some (Value.int z)) ((kn_add rfl (show (1 : Int32) = nI 1 from rfl)).trans (congrArg nI (by rw [e1, if_pos hq]))) | exact congrArg (fun z => some (Value.int z)) ((kn_add rfl (show (0 : Int32) = nI 0 from rfl)).trans (congrArg nI (by rw [e1, if_neg hq])))) (ksS (by first | rfl | exact congrArg (fun z => some (Value.int z)) ((kn_add rfl (show (1 : Int32) = nI 1 from rfl)).trans (congrArg nI (by rw [e1, if_pos hq]))) | exact congrArg (fun z => some (Value.int z)) ((kn_add rfl (show (0 : Int32) = nI 0 from rfl)).trans (congrArg nI (by rw [e1, if_neg hq])))) (ksS (by first | rfl | exact congrArg (fun z => some (Value.int z)) ((kn_add rfl (show (1 : Int32) = nI 1 from rfl)).trans (congrArg nI (by rw [e1, if_pos hq]))) | exact congrArg (fun z => some (Value.int z)) ((kn_add rfl (show (0 : Int32) = nI 0 from rfl)).trans (congrArg nI (by rw [e1, if_neg hq])))) (ksS (by first | rfl | exact congrArg (fun z => some (Value.int z)) ((kn_add rfl (show (1 : Int32) = nI 1 from rfl)).trans (congrArg nI (by rw [e1, if_pos hq]))) | exact congrArg (fun z => some (Value.int z)) ((kn_add rfl (show (0 : Int32) = nI 0 from rfl)).trans (congrArg nI (by rw [e1, if_neg hq])))) (ksS (by first | rfl | exact congrArg (fun z => some (Value.int z)) ((kn_add rfl (show (1 : Int32) = nI 1 from rfl)).trans (congrArg nI (by rw [e1, if_pos hq]))) | exact congrArg (fun z => some (Value.int z)) ((kn_add rfl (show (0 : Int32) = nI 0 from rfl)).trans (congrArg nI (by rw [e1, if_neg hq])))) (ksS (by first | rfl | exact congrArg (fun z => some (Value.int z)) ((kn_add rfl (show (1 : Int32) = nI 1 from rfl)).trans (congrArg nI (by rw [e1, if_pos hq]))) | exact congrArg (fun z => some (Value.int z)) ((kn_add rfl (show (0 : Int32) = nI 0 from rfl)).trans (congrArg nI (by rw [e1, if_neg hq])))) (ksS (by first | rfl | exact congrArg (fun z => some (Value.int z)) ((kn_add rfl (show (1 : Int32) = nI 1 from rfl)).trans (congrArg nI (by rw [e1, if_pos hq]))) | exact congrArg (fun z => some (Value.int z)) ((kn_add rfl (show (0 : Int32) = nI 0 from rfl)).trans (congrArg nI (by rw [e1, if_neg hq])))) ksN)))))))))
                          · have h0 := h19
                            refine kv_aload_n dX12_areTied_60 rfl ?_
                            refine kv_iload dX12_areTied_61 rfl ?_
                            refine kv_iconst dX12_areTied_63 5 ki_5 ?_
                            refine kv_iload dX12_areTied_64 rfl ?_
                            refine kv_iadd dX12_areTied_66 ?_
                            rw [show (5 + nI m : Int32) = nI (5 + m) from kn_add (show (5 : Int32) = nI 5 from rfl) rfl]
                            refine kw_Vi [_, _] mX12_car dX12_areTied_67 lX12_89 wX12_car kC12 hu rfl (by first | rfl | assumption) rfl rfl rfl (by first | exact gX12_car hu eg (kCarOf g a 0) (5 + m) (by omega) (by omega) | exact gX12_car hu eg (kCarOf g a 1) (5 + m) (by omega) (by omega) ) (by decide) ?_
                            refine kv_aload_n dX12_areTied_70 rfl ?_
                            refine kv_iload dX12_areTied_71 rfl ?_
                            refine kv_iconst dX12_areTied_73 5 ki_5 ?_
                            refine kv_iload dX12_areTied_74 rfl ?_
                            refine kv_iadd dX12_areTied_76 ?_
                            rw [show (5 + nI m : Int32) = nI (5 + m) from kn_add (show (5 : Int32) = nI 5 from rfl) rfl]
                            refine kw_Vi [_, _] mX12_car dX12_areTied_77 lX12_89 wX12_car kC12 hu rfl (by first | rfl | assumption) rfl rfl rfl (by first | exact gX12_car hu eg (kCarOf g b 0) (5 + m) (by omega) (by omega) | exact gX12_car hu eg (kCarOf g b 1) (5 + m) (by omega) (by omega) ) (by decide) ?_
                            refine kv_icmp_ne dX12_areTied_80 87 (by decide) (fun h20 => ?_) (fun h20 => ?_)
                            · have hq : ¬ (¬ g (40 + 8 * (kCarOf g a 1) + (5 + m)) < 0 ∧ g (40 + 8 * (kCarOf g a 1) + (5 + m)) = g (40 + 8 * (kCarOf g b 0) + (5 + m))) := fun q => h20 q.2
                              refine kv_iconst dX12_areTied_87 0 ki_0 ?_
                              refine kv_iadd dX12_areTied_88 ?_
                              refine kv_istore (ls2 := [_, _, _, _, _, _, _, _, _]) dX12_areTied_89 rfl rfl rfl rfl ?_
                              refine kv_iinc (ls2 := [_, _, _, _, _, _, _, _, _]) dX12_areTied_91 (nI (m + 1)) rfl (kv_inc1 m) rfl rfl rfl rfl ?_
                              refine kv_goto dX12_areTied_94 39 (by decide) ?_
                              exact KV.loc ih (ksS (by first | rfl | exact congrArg (fun z => some (Value.int z)) ((kn_add rfl (show (1 : Int32) = nI 1 from rfl)).trans (congrArg nI (by rw [e1, if_pos hq]))) | exact congrArg (fun z => some (Value.int z)) ((kn_add rfl (show (0 : Int32) = nI 0 from rfl)).trans (congrArg nI (by rw [e1, if_neg hq])))) (ksS (by first | rfl | exact congrArg (fun z => some (Value.int z)) ((kn_add rfl (show (1 : Int32) = nI 1 from rfl)).trans (congrArg nI (by rw [e1, if_pos hq]))) | exact congrArg (fun z => some (Value.int z)) ((kn_add rfl (show (0 : Int32) = nI 0 from rfl)).trans (congrArg nI (by rw [e1, if_neg hq])))) (ksS (by first | rfl | exact congrArg (fun z => some (Value.int z)) ((kn_add rfl (show (1 : Int32) = nI 1 from rfl)).trans (congrArg nI (by rw [e1, if_pos hq]))) | exact congrArg (fun z => some (Value.int z)) ((kn_add rfl (show (0 : Int32) = nI 0 from rfl)).trans (congrArg nI (by rw [e1, if_neg hq])))) (ksS (by first | rfl | exact congrArg (fun z => some (Value.int z)) ((kn_add rfl (show (1 : Int32) = nI 1 from rfl)).trans (congrArg nI (by rw [e1, if_pos hq]))) | exact congrArg (fun z => some (Value.int z)) ((kn_add rfl (show (0 : Int32) = nI 0 from rfl)).trans (congrArg nI (by rw [e1, if_neg hq])))) (ksS (by first | rfl | exact congrArg (fun z => some (Value.int z)) ((kn_add rfl (show (1 : Int32) = nI 1 from rfl)).trans (congrArg nI (by rw [e1, if_pos hq]))) | exact congrArg (fun z => some (Value.int z)) ((kn_add rfl (show (0 : Int32) = nI 0 from rfl)).trans (congrArg nI (by rw [e1, if_neg hq])))) (ksS (by first | rfl | exact congrArg (fun z => some (Value.int z)) ((kn_add rfl (show (1 : Int32) = nI 1 from rfl)).trans (congrArg nI (by rw [e1, if_pos hq]))) | exact congrArg (fun z => some (Value.int z)) ((kn_add rfl (show (0 : Int32) = nI 0 from rfl)).trans (congrArg nI (by rw [e1, if_neg hq])))) (ksS (by first | rfl | exact congrArg (fun z => some (Value.int z)) ((kn_add rfl (show (1 : Int32) = nI 1 from rfl)).trans (congrArg nI (by rw [e1, if_pos hq]))) | exact congrArg (fun z => some (Value.int z)) ((kn_add rfl (show (0 : Int32) = nI 0 from rfl)).trans (congrArg nI (by rw [e1, if_neg hq])))) (ksS (by first | rfl | exact congrArg (fun z => some (Value.int z)) ((kn_add rfl (show (1 : Int32) = nI 1 from rfl)).trans (congrArg nI (by rw [e1, if_pos hq]))) | exact congrArg (fun z => some (Value.int z)) ((kn_add rfl (show (0 : Int32) = nI 0 from rfl)).trans (congrArg nI (by rw [e1, if_neg hq])))) (ksS (by first | rfl | exact congrArg (fun z => some (Value.int z)) ((kn_add rfl (show (1 : Int32) = nI 1 from rfl)).trans (congrArg nI (by rw [e1, if_pos hq]))) | exact congrArg (fun z => some (Value.int z)) ((kn_add rfl (show (0 : Int32) = nI 0 from rfl)).trans (congrArg nI (by rw [e1, if_neg hq])))) ksN)))))))))
                            · have hq : ¬ g (40 + 8 * (kCarOf g a 1) + (5 + m)) < 0 ∧ g (40 + 8 * (kCarOf g a 1) + (5 + m)) = g (40 + 8 * (kCarOf g b 0) + (5 + m)) := ⟨h0, h20⟩
                              refine kv_iconst dX12_areTied_83 1 ki_1 ?_
                              refine kv_goto dX12_areTied_84 88 (by decide) ?_
                              refine kv_iadd dX12_areTied_88 ?_
                              refine kv_istore (ls2 := [_, _, _, _, _, _, _, _, _]) dX12_areTied_89 rfl rfl rfl rfl ?_
                              refine kv_iinc (ls2 := [_, _, _, _, _, _, _, _, _]) dX12_areTied_91 (nI (m + 1)) rfl (kv_inc1 m) rfl rfl rfl rfl ?_
                              refine kv_goto dX12_areTied_94 39 (by decide) ?_
                              exact KV.loc ih (ksS (by first | rfl | exact congrArg (fun z => some (Value.int z)) ((kn_add rfl (show (1 : Int32) = nI 1 from rfl)).trans (congrArg nI (by rw [e1, if_pos hq]))) | exact congrArg (fun z => some (Value.int z)) ((kn_add rfl (show (0 : Int32) = nI 0 from rfl)).trans (congrArg nI (by rw [e1, if_neg hq])))) (ksS (by first | rfl | exact congrArg (fun z => some (Value.int z)) ((kn_add rfl (show (1 : Int32) = nI 1 from rfl)).trans (congrArg nI (by rw [e1, if_pos hq]))) | exact congrArg (fun z => some (Value.int z)) ((kn_add rfl (show (0 : Int32) = nI 0 from rfl)).trans (congrArg nI (by rw [e1, if_neg hq])))) (ksS (by first | rfl | exact congrArg (fun z => some (Value.int z)) ((kn_add rfl (show (1 : Int32) = nI 1 from rfl)).trans (congrArg nI (by rw [e1, if_pos hq]))) | exact congrArg (fun z => some (Value.int z)) ((kn_add rfl (show (0 : Int32) = nI 0 from rfl)).trans (congrArg nI (by rw [e1, if_neg hq])))) (ksS (by first | rfl | exact congrArg (fun z => some (Value.int z)) ((kn_add rfl (show (1 : Int32) = nI 1 from rfl)).trans (congrArg nI (by rw [e1, if_pos hq]))) | exact congrArg (fun z => some (Value.int z)) ((kn_add rfl (show (0 : Int32) = nI 0 from rfl)).trans (congrArg nI (by rw [e1, if_neg hq])))) (ksS (by first | rfl | exact congrArg (fun z => some (Value.int z)) ((kn_add rfl (show (1 : Int32) = nI 1 from rfl)).trans (congrArg nI (by rw [e1, if_pos hq]))) | exact congrArg (fun z => some (Value.int z)) ((kn_add rfl (show (0 : Int32) = nI 0 from rfl)).trans (congrArg nI (by rw [e1, if_neg hq])))) (ksS (by first | rfl | exact congrArg (fun z => some (Value.int z)) ((kn_add rfl (show (1 : Int32) = nI 1 from rfl)).trans (congrArg nI (by rw [e1, if_pos hq]))) | exact congrArg (fun z => some (Value.int z)) ((kn_add rfl (show (0 : Int32) = nI 0 from rfl)).trans (congrArg nI (by rw [e1, if_neg hq])))) (ksS (by first | rfl | exact congrArg (fun z => some (Value.int z)) ((kn_add rfl (show (1 : Int32) = nI 1 from rfl)).trans (congrArg nI (by rw [e1, if_pos hq]))) | exact congrArg (fun z => some (Value.int z)) ((kn_add rfl (show (0 : Int32) = nI 0 from rfl)).trans (congrArg nI (by rw [e1, if_neg hq])))) (ksS (by first | rfl | exact congrArg (fun z => some (Value.int z)) ((kn_add rfl (show (1 : Int32) = nI 1 from rfl)).trans (congrArg nI (by rw [e1, if_pos hq]))) | exact congrArg (fun z => some (Value.int z)) ((kn_add rfl (show (0 : Int32) = nI 0 from rfl)).trans (congrArg nI (by rw [e1, if_neg hq])))) (ksS (by first | rfl | exact congrArg (fun z => some (Value.int z)) ((kn_add rfl (show (1 : Int32) = nI 1 from rfl)).trans (congrArg nI (by rw [e1, if_pos hq]))) | exact congrArg (fun z => some (Value.int z)) ((kn_add rfl (show (0 : Int32) = nI 0 from rfl)).trans (congrArg nI (by rw [e1, if_neg hq])))) ksN)))))))))
                  · exact absurd h7 (by decide)
                · exact absurd (Int32.le_refl (nI 3)) h6
              · have e1 : kAlA g (kCarOf g a 0) (kCarOf g b 1) (m + 1) = kAlA g (kCarOf g a 0) (kCarOf g b 1) m + (if ¬ g (40 + 8 * (kCarOf g a 0) + (5 + m)) < 0 ∧ g (40 + 8 * (kCarOf g a 0) + (5 + m)) = g (40 + 8 * (kCarOf g b 1) + (5 + m)) then 1 else 0) := rfl
                refine kv_iload dX12_areTied_39 rfl ?_
                refine kv_iconst dX12_areTied_41 3 ki_3 ?_
                refine kv_icmp_ge dX12_areTied_42 97 (by decide) (fun h21 => ?_) (fun h21 => ?_)
                · exact absurd h21 (kn_ge (n := 3) hm (by omega))
                · refine kv_iload dX12_areTied_45 rfl ?_
                  refine kv_aload_n dX12_areTied_47 rfl ?_
                  refine kv_iload dX12_areTied_48 rfl ?_
                  refine kv_iconst dX12_areTied_50 5 ki_5 ?_
                  refine kv_iload dX12_areTied_51 rfl ?_
                  refine kv_iadd dX12_areTied_53 ?_
                  rw [show (5 + nI m : Int32) = nI (5 + m) from kn_add (show (5 : Int32) = nI 5 from rfl) rfl]
                  refine kw_Vi [_, _] mX12_car dX12_areTied_54 lX12_89 wX12_car kC12 hu rfl (by first | rfl | assumption) rfl rfl rfl (by first | exact gX12_car hu eg (kCarOf g a 0) (5 + m) (by omega) (by omega) | exact gX12_car hu eg (kCarOf g a 1) (5 + m) (by omega) (by omega) ) (by decide) ?_
                  refine kv_if_lt dX12_areTied_57 87 (by decide) (fun h22 => ?_) (fun h22 => ?_)
                  · have hq : ¬ (¬ g (40 + 8 * (kCarOf g a 0) + (5 + m)) < 0 ∧ g (40 + 8 * (kCarOf g a 0) + (5 + m)) = g (40 + 8 * (kCarOf g b 1) + (5 + m))) := fun q => q.1 h22
                    refine kv_iconst dX12_areTied_87 0 ki_0 ?_
                    refine kv_iadd dX12_areTied_88 ?_
                    refine kv_istore (ls2 := [_, _, _, _, _, _, _, _, _]) dX12_areTied_89 rfl rfl rfl rfl ?_
                    refine kv_iinc (ls2 := [_, _, _, _, _, _, _, _, _]) dX12_areTied_91 (nI (m + 1)) rfl (kv_inc1 m) rfl rfl rfl rfl ?_
                    refine kv_goto dX12_areTied_94 39 (by decide) ?_
                    exact KV.loc ih (ksS (by first | rfl | exact congrArg (fun z => some (Value.int z)) ((kn_add rfl (show (1 : Int32) = nI 1 from rfl)).trans (congrArg nI (by rw [e1, if_pos hq]))) | exact congrArg (fun z => some (Value.int z)) ((kn_add rfl (show (0 : Int32) = nI 0 from rfl)).trans (congrArg nI (by rw [e1, if_neg hq])))) (ksS (by first | rfl | exact congrArg (fun z => some (Value.int z)) ((kn_add rfl (show (1 : Int32) = nI 1 from rfl)).trans (congrArg nI (by rw [e1, if_pos hq]))) | exact congrArg (fun z => some (Value.int z)) ((kn_add rfl (show (0 : Int32) = nI 0 from rfl)).trans (congrArg nI (by rw [e1, if_neg hq])))) (ksS (by first | rfl | exact congrArg (fun z => some (Value.int z)) ((kn_add rfl (show (1 : Int32) = nI 1 from rfl)).trans (congrArg nI (by rw [e1, if_pos hq]))) | exact congrArg (fun z => some (Value.int z)) ((kn_add rfl (show (0 : Int32) = nI 0 from rfl)).trans (congrArg nI (by rw [e1, if_neg hq])))) (ksS (by first | rfl | exact congrArg (fun z => some (Value.int z)) ((kn_add rfl (show (1 : Int32) = nI 1 from rfl)).trans (congrArg nI (by rw [e1, if_pos hq]))) | exact congrArg (fun z => some (Value.int z)) ((kn_add rfl (show (0 : Int32) = nI 0 from rfl)).trans (congrArg nI (by rw [e1, if_neg hq])))) (ksS (by first | rfl | exact congrArg (fun z => some (Value.int z)) ((kn_add rfl (show (1 : Int32) = nI 1 from rfl)).trans (congrArg nI (by rw [e1, if_pos hq]))) | exact congrArg (fun z => some (Value.int z)) ((kn_add rfl (show (0 : Int32) = nI 0 from rfl)).trans (congrArg nI (by rw [e1, if_neg hq])))) (ksS (by first | rfl | exact congrArg (fun z => some (Value.int z)) ((kn_add rfl (show (1 : Int32) = nI 1 from rfl)).trans (congrArg nI (by rw [e1, if_pos hq]))) | exact congrArg (fun z => some (Value.int z)) ((kn_add rfl (show (0 : Int32) = nI 0 from rfl)).trans (congrArg nI (by rw [e1, if_neg hq])))) (ksS (by first | rfl | exact congrArg (fun z => some (Value.int z)) ((kn_add rfl (show (1 : Int32) = nI 1 from rfl)).trans (congrArg nI (by rw [e1, if_pos hq]))) | exact congrArg (fun z => some (Value.int z)) ((kn_add rfl (show (0 : Int32) = nI 0 from rfl)).trans (congrArg nI (by rw [e1, if_neg hq])))) (ksS (by first | rfl | exact congrArg (fun z => some (Value.int z)) ((kn_add rfl (show (1 : Int32) = nI 1 from rfl)).trans (congrArg nI (by rw [e1, if_pos hq]))) | exact congrArg (fun z => some (Value.int z)) ((kn_add rfl (show (0 : Int32) = nI 0 from rfl)).trans (congrArg nI (by rw [e1, if_neg hq])))) (ksS (by first | rfl | exact congrArg (fun z => some (Value.int z)) ((kn_add rfl (show (1 : Int32) = nI 1 from rfl)).trans (congrArg nI (by rw [e1, if_pos hq]))) | exact congrArg (fun z => some (Value.int z)) ((kn_add rfl (show (0 : Int32) = nI 0 from rfl)).trans (congrArg nI (by rw [e1, if_neg hq])))) ksN)))))))))
                  · have h0 := h22
                    refine kv_aload_n dX12_areTied_60 rfl ?_
                    refine kv_iload dX12_areTied_61 rfl ?_
                    refine kv_iconst dX12_areTied_63 5 ki_5 ?_
                    refine kv_iload dX12_areTied_64 rfl ?_
                    refine kv_iadd dX12_areTied_66 ?_
                    rw [show (5 + nI m : Int32) = nI (5 + m) from kn_add (show (5 : Int32) = nI 5 from rfl) rfl]
                    refine kw_Vi [_, _] mX12_car dX12_areTied_67 lX12_89 wX12_car kC12 hu rfl (by first | rfl | assumption) rfl rfl rfl (by first | exact gX12_car hu eg (kCarOf g a 0) (5 + m) (by omega) (by omega) | exact gX12_car hu eg (kCarOf g a 1) (5 + m) (by omega) (by omega) ) (by decide) ?_
                    refine kv_aload_n dX12_areTied_70 rfl ?_
                    refine kv_iload dX12_areTied_71 rfl ?_
                    refine kv_iconst dX12_areTied_73 5 ki_5 ?_
                    refine kv_iload dX12_areTied_74 rfl ?_
                    refine kv_iadd dX12_areTied_76 ?_
                    rw [show (5 + nI m : Int32) = nI (5 + m) from kn_add (show (5 : Int32) = nI 5 from rfl) rfl]
                    refine kw_Vi [_, _] mX12_car dX12_areTied_77 lX12_89 wX12_car kC12 hu rfl (by first | rfl | assumption) rfl rfl rfl (by first | exact gX12_car hu eg (kCarOf g b 0) (5 + m) (by omega) (by omega) | exact gX12_car hu eg (kCarOf g b 1) (5 + m) (by omega) (by omega) ) (by decide) ?_
                    refine kv_icmp_ne dX12_areTied_80 87 (by decide) (fun h23 => ?_) (fun h23 => ?_)
                    · have hq : ¬ (¬ g (40 + 8 * (kCarOf g a 0) + (5 + m)) < 0 ∧ g (40 + 8 * (kCarOf g a 0) + (5 + m)) = g (40 + 8 * (kCarOf g b 1) + (5 + m))) := fun q => h23 q.2
                      refine kv_iconst dX12_areTied_87 0 ki_0 ?_
                      refine kv_iadd dX12_areTied_88 ?_
                      refine kv_istore (ls2 := [_, _, _, _, _, _, _, _, _]) dX12_areTied_89 rfl rfl rfl rfl ?_
                      refine kv_iinc (ls2 := [_, _, _, _, _, _, _, _, _]) dX12_areTied_91 (nI (m + 1)) rfl (kv_inc1 m) rfl rfl rfl rfl ?_
                      refine kv_goto dX12_areTied_94 39 (by decide) ?_
                      exact KV.loc ih (ksS (by first | rfl | exact congrArg (fun z => some (Value.int z)) ((kn_add rfl (show (1 : Int32) = nI 1 from rfl)).trans (congrArg nI (by rw [e1, if_pos hq]))) | exact congrArg (fun z => some (Value.int z)) ((kn_add rfl (show (0 : Int32) = nI 0 from rfl)).trans (congrArg nI (by rw [e1, if_neg hq])))) (ksS (by first | rfl | exact congrArg (fun z => some (Value.int z)) ((kn_add rfl (show (1 : Int32) = nI 1 from rfl)).trans (congrArg nI (by rw [e1, if_pos hq]))) | exact congrArg (fun z => some (Value.int z)) ((kn_add rfl (show (0 : Int32) = nI 0 from rfl)).trans (congrArg nI (by rw [e1, if_neg hq])))) (ksS (by first | rfl | exact congrArg (fun z => some (Value.int z)) ((kn_add rfl (show (1 : Int32) = nI 1 from rfl)).trans (congrArg nI (by rw [e1, if_pos hq]))) | exact congrArg (fun z => some (Value.int z)) ((kn_add rfl (show (0 : Int32) = nI 0 from rfl)).trans (congrArg nI (by rw [e1, if_neg hq])))) (ksS (by first | rfl | exact congrArg (fun z => some (Value.int z)) ((kn_add rfl (show (1 : Int32) = nI 1 from rfl)).trans (congrArg nI (by rw [e1, if_pos hq]))) | exact congrArg (fun z => some (Value.int z)) ((kn_add rfl (show (0 : Int32) = nI 0 from rfl)).trans (congrArg nI (by rw [e1, if_neg hq])))) (ksS (by first | rfl | exact congrArg (fun z => some (Value.int z)) ((kn_add rfl (show (1 : Int32) = nI 1 from rfl)).trans (congrArg nI (by rw [e1, if_pos hq]))) | exact congrArg (fun z => some (Value.int z)) ((kn_add rfl (show (0 : Int32) = nI 0 from rfl)).trans (congrArg nI (by rw [e1, if_neg hq])))) (ksS (by first | rfl | exact congrArg (fun z => some (Value.int z)) ((kn_add rfl (show (1 : Int32) = nI 1 from rfl)).trans (congrArg nI (by rw [e1, if_pos hq]))) | exact congrArg (fun z => some (Value.int z)) ((kn_add rfl (show (0 : Int32) = nI 0 from rfl)).trans (congrArg nI (by rw [e1, if_neg hq])))) (ksS (by first | rfl | exact congrArg (fun z => some (Value.int z)) ((kn_add rfl (show (1 : Int32) = nI 1 from rfl)).trans (congrArg nI (by rw [e1, if_pos hq]))) | exact congrArg (fun z => some (Value.int z)) ((kn_add rfl (show (0 : Int32) = nI 0 from rfl)).trans (congrArg nI (by rw [e1, if_neg hq])))) (ksS (by first | rfl | exact congrArg (fun z => some (Value.int z)) ((kn_add rfl (show (1 : Int32) = nI 1 from rfl)).trans (congrArg nI (by rw [e1, if_pos hq]))) | exact congrArg (fun z => some (Value.int z)) ((kn_add rfl (show (0 : Int32) = nI 0 from rfl)).trans (congrArg nI (by rw [e1, if_neg hq])))) (ksS (by first | rfl | exact congrArg (fun z => some (Value.int z)) ((kn_add rfl (show (1 : Int32) = nI 1 from rfl)).trans (congrArg nI (by rw [e1, if_pos hq]))) | exact congrArg (fun z => some (Value.int z)) ((kn_add rfl (show (0 : Int32) = nI 0 from rfl)).trans (congrArg nI (by rw [e1, if_neg hq])))) ksN)))))))))
                    · have hq : ¬ g (40 + 8 * (kCarOf g a 0) + (5 + m)) < 0 ∧ g (40 + 8 * (kCarOf g a 0) + (5 + m)) = g (40 + 8 * (kCarOf g b 1) + (5 + m)) := ⟨h0, h23⟩
                      refine kv_iconst dX12_areTied_83 1 ki_1 ?_
                      refine kv_goto dX12_areTied_84 88 (by decide) ?_
                      refine kv_iadd dX12_areTied_88 ?_
                      refine kv_istore (ls2 := [_, _, _, _, _, _, _, _, _]) dX12_areTied_89 rfl rfl rfl rfl ?_
                      refine kv_iinc (ls2 := [_, _, _, _, _, _, _, _, _]) dX12_areTied_91 (nI (m + 1)) rfl (kv_inc1 m) rfl rfl rfl rfl ?_
                      refine kv_goto dX12_areTied_94 39 (by decide) ?_
                      exact KV.loc ih (ksS (by first | rfl | exact congrArg (fun z => some (Value.int z)) ((kn_add rfl (show (1 : Int32) = nI 1 from rfl)).trans (congrArg nI (by rw [e1, if_pos hq]))) | exact congrArg (fun z => some (Value.int z)) ((kn_add rfl (show (0 : Int32) = nI 0 from rfl)).trans (congrArg nI (by rw [e1, if_neg hq])))) (ksS (by first | rfl | exact congrArg (fun z => some (Value.int z)) ((kn_add rfl (show (1 : Int32) = nI 1 from rfl)).trans (congrArg nI (by rw [e1, if_pos hq]))) | exact congrArg (fun z => some (Value.int z)) ((kn_add rfl (show (0 : Int32) = nI 0 from rfl)).trans (congrArg nI (by rw [e1, if_neg hq])))) (ksS (by first | rfl | exact congrArg (fun z => some (Value.int z)) ((kn_add rfl (show (1 : Int32) = nI 1 from rfl)).trans (congrArg nI (by rw [e1, if_pos hq]))) | exact congrArg (fun z => some (Value.int z)) ((kn_add rfl (show (0 : Int32) = nI 0 from rfl)).trans (congrArg nI (by rw [e1, if_neg hq])))) (ksS (by first | rfl | exact congrArg (fun z => some (Value.int z)) ((kn_add rfl (show (1 : Int32) = nI 1 from rfl)).trans (congrArg nI (by rw [e1, if_pos hq]))) | exact congrArg (fun z => some (Value.int z)) ((kn_add rfl (show (0 : Int32) = nI 0 from rfl)).trans (congrArg nI (by rw [e1, if_neg hq])))) (ksS (by first | rfl | exact congrArg (fun z => some (Value.int z)) ((kn_add rfl (show (1 : Int32) = nI 1 from rfl)).trans (congrArg nI (by rw [e1, if_pos hq]))) | exact congrArg (fun z => some (Value.int z)) ((kn_add rfl (show (0 : Int32) = nI 0 from rfl)).trans (congrArg nI (by rw [e1, if_neg hq])))) (ksS (by first | rfl | exact congrArg (fun z => some (Value.int z)) ((kn_add rfl (show (1 : Int32) = nI 1 from rfl)).trans (congrArg nI (by rw [e1, if_pos hq]))) | exact congrArg (fun z => some (Value.int z)) ((kn_add rfl (show (0 : Int32) = nI 0 from rfl)).trans (congrArg nI (by rw [e1, if_neg hq])))) (ksS (by first | rfl | exact congrArg (fun z => some (Value.int z)) ((kn_add rfl (show (1 : Int32) = nI 1 from rfl)).trans (congrArg nI (by rw [e1, if_pos hq]))) | exact congrArg (fun z => some (Value.int z)) ((kn_add rfl (show (0 : Int32) = nI 0 from rfl)).trans (congrArg nI (by rw [e1, if_neg hq])))) (ksS (by first | rfl | exact congrArg (fun z => some (Value.int z)) ((kn_add rfl (show (1 : Int32) = nI 1 from rfl)).trans (congrArg nI (by rw [e1, if_pos hq]))) | exact congrArg (fun z => some (Value.int z)) ((kn_add rfl (show (0 : Int32) = nI 0 from rfl)).trans (congrArg nI (by rw [e1, if_neg hq])))) (ksS (by first | rfl | exact congrArg (fun z => some (Value.int z)) ((kn_add rfl (show (1 : Int32) = nI 1 from rfl)).trans (congrArg nI (by rw [e1, if_pos hq]))) | exact congrArg (fun z => some (Value.int z)) ((kn_add rfl (show (0 : Int32) = nI 0 from rfl)).trans (congrArg nI (by rw [e1, if_neg hq])))) ksN)))))))))
          · have ne1 : ¬ kCarOf g a 0 = kCarOf g b 0 := fun q => h4 (congrArg nI q)
            refine kv_iload dX12_areTied_108 rfl ?_
            refine kv_iconst dX12_areTied_110 1 ki_1 ?_
            refine kv_icmp_le dX12_areTied_111 118 (by decide) (fun h24 => ?_) (fun h24 => ?_)
            · have ne2 : ¬ 2 ≤ kAlA g (kCarOf g a 0) (kCarOf g b 0) 3 := fun q => nI_ge (a := 1) q (by have := kAlA_le g (kCarOf g a 0) (kCarOf g b 0) 3; omega) h24
              refine kv_iconst dX12_areTied_118 0 ki_0 ?_
              refine kv_istore_n (ls2 := [_, _, _, _, _, _, _, _, _]) dX12_areTied_119 rfl rfl rfl rfl ?_
              refine kv_iinc (ls2 := [_, _, _, _, _, _, _, _, _]) dX12_areTied_120 (1 : Int32) rfl rfl rfl rfl rfl rfl ?_
              refine kv_goto dX12_areTied_123 5 (by decide) ?_
              refine kv_iload dX12_areTied_5 rfl ?_
              refine kv_iconst dX12_areTied_7 4 ki_4 ?_
              refine kv_icmp_ge dX12_areTied_8 126 (by decide) (fun h25 => ?_) (fun h25 => ?_)
              · exact absurd h25 (by decide)
              · refine kv_aload_n dX12_areTied_11 rfl ?_
                refine kv_iload_n dX12_areTied_12 rfl ?_
                refine kv_iload dX12_areTied_13 rfl ?_
                refine kv_iconst dX12_areTied_15 2 ki_2 ?_
                refine kv_idiv dX12_areTied_16 (by decide) ?_
                rw [show ((1 : Int32) / 2) = 0 from rfl]
                refine kw_Vi [_, _] mX12_carOf dX12_areTied_17 lX12_116 wX12_carOf kC12 hu rfl (by first | rfl | assumption) rfl rfl rfl (gX12_carOf hu eg a 0 (by omega) (by omega)) (by decide) ?_
                first | rw [ca0.1] | rw [ca1.1]
                refine kv_istore (ls2 := [_, _, _, _, _, _, _, _, _]) dX12_areTied_20 rfl rfl rfl rfl ?_
                refine kv_aload_n dX12_areTied_22 rfl ?_
                refine kv_iload_n dX12_areTied_23 rfl ?_
                refine kv_iload dX12_areTied_24 rfl ?_
                refine kv_iconst dX12_areTied_26 2 ki_2 ?_
                refine kv_irem dX12_areTied_27 (by decide) ?_
                rw [show ((1 : Int32) - 1 / 2 * 2) = 1 from rfl]
                refine kw_Vi [_, _] mX12_carOf dX12_areTied_28 lX12_116 wX12_carOf kC12 hu rfl (by first | rfl | assumption) rfl rfl rfl (gX12_carOf hu eg b 1 (by omega) (by omega)) (by decide) ?_
                first | rw [cb0.1] | rw [cb1.1]
                refine kv_istore (ls2 := [_, _, _, _, _, _, _, _, _]) dX12_areTied_31 rfl rfl rfl rfl ?_
                refine kv_iconst dX12_areTied_33 0 ki_0 ?_
                refine kv_istore (ls2 := [_, _, _, _, _, _, _, _, _]) dX12_areTied_34 rfl rfl rfl rfl ?_
                refine kv_iconst dX12_areTied_36 0 ki_0 ?_
                refine kv_istore (ls2 := [_, _, _, _, _, _, _, _, _]) dX12_areTied_37 rfl rfl rfl rfl ?_
                refine KV.loc (ls2 := [some (.ref 413), some (.int (nI a)), some (.int (nI b)), some (.int 0), some (.int 1), some (.int (nI (kCarOf g a 0))), some (.int (nI (kCarOf g b 1))), some (.int (nI (kAlA g (kCarOf g a 0) (kCarOf g b 1) (0)))), some (.int (nI (0)))]) ?_ (ksS rfl (ksS rfl (ksS rfl (ksS rfl (ksS rfl (ksS rfl (ksS rfl (ksS rfl (ksS rfl ksN)))))))))
                refine kn_loop (P := fun m => KV w l mX12_areTied 2 0 0 39 [some (.ref 413), some (.int (nI a)), some (.int (nI b)), some (.int 0), some (.int 1), some (.int (nI (kCarOf g a 0))), some (.int (nI (kCarOf g b 1))), some (.int (nI (kAlA g (kCarOf g a 0) (kCarOf g b 1) (m)))), some (.int (nI (m)))] [] u (kq (some (.int (if kTie g a b then 1 else 0))) u)) (3) ?_ (fun m hm ih => ?_)
                · refine kv_iload dX12_areTied_39 rfl ?_
                  refine kv_iconst dX12_areTied_41 3 ki_3 ?_
                  refine kv_icmp_ge dX12_areTied_42 97 (by decide) (fun h26 => ?_) (fun h26 => ?_)
                  · refine kv_iload_n dX12_areTied_97 rfl ?_
                    refine kv_if_ne dX12_areTied_98 114 (by decide) (fun h27 => ?_) (fun h27 => ?_)
                    · exact absurd h27 (by decide)
                    · refine kv_iload dX12_areTied_101 rfl ?_
                      refine kv_iload dX12_areTied_103 rfl ?_
                      refine kv_icmp_eq dX12_areTied_105 114 (by decide) (fun h28 => ?_) (fun h28 => ?_)
                      · have E1 : kCarOf g a 0 = kCarOf g b 1 := (nI_eq (by omega) (by omega)).mp h28
                        have H : kTie g a b := by
                          first
                          | exact Or.inl (Or.inl E1)
                          | exact Or.inr (Or.inl (Or.inl E1))
                          | exact Or.inr (Or.inr (Or.inl (Or.inl E1)))
                          | exact Or.inr (Or.inr (Or.inr (Or.inl E1)))
                        refine kv_iconst dX12_areTied_114 1 ki_1 ?_
                        refine kv_goto dX12_areTied_115 119 (by decide) ?_
                        refine kv_istore_n (ls2 := [_, _, _, _, _, _, _, _, _]) dX12_areTied_119 rfl rfl rfl rfl ?_
                        refine kv_iinc (ls2 := [_, _, _, _, _, _, _, _, _]) dX12_areTied_120 (2 : Int32) rfl rfl rfl rfl rfl rfl ?_
                        refine kv_goto dX12_areTied_123 5 (by decide) ?_
                        refine kv_iload dX12_areTied_5 rfl ?_
                        refine kv_iconst dX12_areTied_7 4 ki_4 ?_
                        refine kv_icmp_ge dX12_areTied_8 126 (by decide) (fun h29 => ?_) (fun h29 => ?_)
                        · exact absurd h29 (by decide)
                        · refine kv_aload_n dX12_areTied_11 rfl ?_
                          refine kv_iload_n dX12_areTied_12 rfl ?_
                          refine kv_iload dX12_areTied_13 rfl ?_
                          refine kv_iconst dX12_areTied_15 2 ki_2 ?_
                          refine kv_idiv dX12_areTied_16 (by decide) ?_
                          rw [show ((2 : Int32) / 2) = 1 from rfl]
                          refine kw_Vi [_, _] mX12_carOf dX12_areTied_17 lX12_116 wX12_carOf kC12 hu rfl (by first | rfl | assumption) rfl rfl rfl (gX12_carOf hu eg a 1 (by omega) (by omega)) (by decide) ?_
                          first | rw [ca0.1] | rw [ca1.1]
                          refine kv_istore (ls2 := [_, _, _, _, _, _, _, _, _]) dX12_areTied_20 rfl rfl rfl rfl ?_
                          refine kv_aload_n dX12_areTied_22 rfl ?_
                          refine kv_iload_n dX12_areTied_23 rfl ?_
                          refine kv_iload dX12_areTied_24 rfl ?_
                          refine kv_iconst dX12_areTied_26 2 ki_2 ?_
                          refine kv_irem dX12_areTied_27 (by decide) ?_
                          rw [show ((2 : Int32) - 2 / 2 * 2) = 0 from rfl]
                          refine kw_Vi [_, _] mX12_carOf dX12_areTied_28 lX12_116 wX12_carOf kC12 hu rfl (by first | rfl | assumption) rfl rfl rfl (gX12_carOf hu eg b 0 (by omega) (by omega)) (by decide) ?_
                          first | rw [cb0.1] | rw [cb1.1]
                          refine kv_istore (ls2 := [_, _, _, _, _, _, _, _, _]) dX12_areTied_31 rfl rfl rfl rfl ?_
                          refine kv_iconst dX12_areTied_33 0 ki_0 ?_
                          refine kv_istore (ls2 := [_, _, _, _, _, _, _, _, _]) dX12_areTied_34 rfl rfl rfl rfl ?_
                          refine kv_iconst dX12_areTied_36 0 ki_0 ?_
                          refine kv_istore (ls2 := [_, _, _, _, _, _, _, _, _]) dX12_areTied_37 rfl rfl rfl rfl ?_
                          refine KV.loc (ls2 := [some (.ref 413), some (.int (nI a)), some (.int (nI b)), some (.int 1), some (.int 2), some (.int (nI (kCarOf g a 1))), some (.int (nI (kCarOf g b 0))), some (.int (nI (kAlA g (kCarOf g a 1) (kCarOf g b 0) (0)))), some (.int (nI (0)))]) ?_ (ksS rfl (ksS rfl (ksS rfl (ksS rfl (ksS rfl (ksS rfl (ksS rfl (ksS rfl (ksS rfl ksN)))))))))
                          refine kn_loop (P := fun m => KV w l mX12_areTied 2 0 0 39 [some (.ref 413), some (.int (nI a)), some (.int (nI b)), some (.int 1), some (.int 2), some (.int (nI (kCarOf g a 1))), some (.int (nI (kCarOf g b 0))), some (.int (nI (kAlA g (kCarOf g a 1) (kCarOf g b 0) (m)))), some (.int (nI (m)))] [] u (kq (some (.int (if kTie g a b then 1 else 0))) u)) (3) ?_ (fun m hm ih => ?_)
                          · refine kv_iload dX12_areTied_39 rfl ?_
                            refine kv_iconst dX12_areTied_41 3 ki_3 ?_
                            refine kv_icmp_ge dX12_areTied_42 97 (by decide) (fun h30 => ?_) (fun h30 => ?_)
                            · refine kv_iload_n dX12_areTied_97 rfl ?_
                              refine kv_if_ne dX12_areTied_98 114 (by decide) (fun h31 => ?_) (fun h31 => ?_)
                              · refine kv_iconst dX12_areTied_114 1 ki_1 ?_
                                refine kv_goto dX12_areTied_115 119 (by decide) ?_
                                refine kv_istore_n (ls2 := [_, _, _, _, _, _, _, _, _]) dX12_areTied_119 rfl rfl rfl rfl ?_
                                refine kv_iinc (ls2 := [_, _, _, _, _, _, _, _, _]) dX12_areTied_120 (3 : Int32) rfl rfl rfl rfl rfl rfl ?_
                                refine kv_goto dX12_areTied_123 5 (by decide) ?_
                                refine kv_iload dX12_areTied_5 rfl ?_
                                refine kv_iconst dX12_areTied_7 4 ki_4 ?_
                                refine kv_icmp_ge dX12_areTied_8 126 (by decide) (fun h32 => ?_) (fun h32 => ?_)
                                · exact absurd h32 (by decide)
                                · refine kv_aload_n dX12_areTied_11 rfl ?_
                                  refine kv_iload_n dX12_areTied_12 rfl ?_
                                  refine kv_iload dX12_areTied_13 rfl ?_
                                  refine kv_iconst dX12_areTied_15 2 ki_2 ?_
                                  refine kv_idiv dX12_areTied_16 (by decide) ?_
                                  rw [show ((3 : Int32) / 2) = 1 from rfl]
                                  refine kw_Vi [_, _] mX12_carOf dX12_areTied_17 lX12_116 wX12_carOf kC12 hu rfl (by first | rfl | assumption) rfl rfl rfl (gX12_carOf hu eg a 1 (by omega) (by omega)) (by decide) ?_
                                  first | rw [ca0.1] | rw [ca1.1]
                                  refine kv_istore (ls2 := [_, _, _, _, _, _, _, _, _]) dX12_areTied_20 rfl rfl rfl rfl ?_
                                  refine kv_aload_n dX12_areTied_22 rfl ?_
                                  refine kv_iload_n dX12_areTied_23 rfl ?_
                                  refine kv_iload dX12_areTied_24 rfl ?_
                                  refine kv_iconst dX12_areTied_26 2 ki_2 ?_
                                  refine kv_irem dX12_areTied_27 (by decide) ?_
                                  rw [show ((3 : Int32) - 3 / 2 * 2) = 1 from rfl]
                                  refine kw_Vi [_, _] mX12_carOf dX12_areTied_28 lX12_116 wX12_carOf kC12 hu rfl (by first | rfl | assumption) rfl rfl rfl (gX12_carOf hu eg b 1 (by omega) (by omega)) (by decide) ?_
                                  first | rw [cb0.1] | rw [cb1.1]
                                  refine kv_istore (ls2 := [_, _, _, _, _, _, _, _, _]) dX12_areTied_31 rfl rfl rfl rfl ?_
                                  refine kv_iconst dX12_areTied_33 0 ki_0 ?_
                                  refine kv_istore (ls2 := [_, _, _, _, _, _, _, _, _]) dX12_areTied_34 rfl rfl rfl rfl ?_
                                  refine kv_iconst dX12_areTied_36 0 ki_0 ?_
                                  refine kv_istore (ls2 := [_, _, _, _, _, _, _, _, _]) dX12_areTied_37 rfl rfl rfl rfl ?_
                                  refine KV.loc (ls2 := [some (.ref 413), some (.int (nI a)), some (.int (nI b)), some (.int 1), some (.int 3), some (.int (nI (kCarOf g a 1))), some (.int (nI (kCarOf g b 1))), some (.int (nI (kAlA g (kCarOf g a 1) (kCarOf g b 1) (0)))), some (.int (nI (0)))]) ?_ (ksS rfl (ksS rfl (ksS rfl (ksS rfl (ksS rfl (ksS rfl (ksS rfl (ksS rfl (ksS rfl ksN)))))))))
                                  refine kn_loop (P := fun m => KV w l mX12_areTied 2 0 0 39 [some (.ref 413), some (.int (nI a)), some (.int (nI b)), some (.int 1), some (.int 3), some (.int (nI (kCarOf g a 1))), some (.int (nI (kCarOf g b 1))), some (.int (nI (kAlA g (kCarOf g a 1) (kCarOf g b 1) (m)))), some (.int (nI (m)))] [] u (kq (some (.int (if kTie g a b then 1 else 0))) u)) (3) ?_ (fun m hm ih => ?_)
                                  · refine kv_iload dX12_areTied_39 rfl ?_
                                    refine kv_iconst dX12_areTied_41 3 ki_3 ?_
                                    refine kv_icmp_ge dX12_areTied_42 97 (by decide) (fun h33 => ?_) (fun h33 => ?_)
                                    · refine kv_iload_n dX12_areTied_97 rfl ?_
                                      refine kv_if_ne dX12_areTied_98 114 (by decide) (fun h34 => ?_) (fun h34 => ?_)
                                      · refine kv_iconst dX12_areTied_114 1 ki_1 ?_
                                        refine kv_goto dX12_areTied_115 119 (by decide) ?_
                                        refine kv_istore_n (ls2 := [_, _, _, _, _, _, _, _, _]) dX12_areTied_119 rfl rfl rfl rfl ?_
                                        refine kv_iinc (ls2 := [_, _, _, _, _, _, _, _, _]) dX12_areTied_120 (4 : Int32) rfl rfl rfl rfl rfl rfl ?_
                                        refine kv_goto dX12_areTied_123 5 (by decide) ?_
                                        refine kv_iload dX12_areTied_5 rfl ?_
                                        refine kv_iconst dX12_areTied_7 4 ki_4 ?_
                                        refine kv_icmp_ge dX12_areTied_8 126 (by decide) (fun h35 => ?_) (fun h35 => ?_)
                                        · refine kv_iload_n dX12_areTied_126 rfl ?_
                                          exact kv_zret dX12_areTied_127 rfl kv_z1 (by first | exact ⟨by rw [if_pos H], rfl⟩ | exact ⟨by rw [if_neg (by rintro ((q | q) | (q | q) | (q | q) | (q | q)) <;> contradiction)], rfl⟩)
                                        · exact absurd h35 (by decide)
                                      · exact absurd h34 (by decide)
                                    · exact absurd (Int32.le_refl (nI 3)) h33
                                  · have e1 : kAlA g (kCarOf g a 1) (kCarOf g b 1) (m + 1) = kAlA g (kCarOf g a 1) (kCarOf g b 1) m + (if ¬ g (40 + 8 * (kCarOf g a 1) + (5 + m)) < 0 ∧ g (40 + 8 * (kCarOf g a 1) + (5 + m)) = g (40 + 8 * (kCarOf g b 1) + (5 + m)) then 1 else 0) := rfl
                                    refine kv_iload dX12_areTied_39 rfl ?_
                                    refine kv_iconst dX12_areTied_41 3 ki_3 ?_
                                    refine kv_icmp_ge dX12_areTied_42 97 (by decide) (fun h36 => ?_) (fun h36 => ?_)
                                    · exact absurd h36 (kn_ge (n := 3) hm (by omega))
                                    · refine kv_iload dX12_areTied_45 rfl ?_
                                      refine kv_aload_n dX12_areTied_47 rfl ?_
                                      refine kv_iload dX12_areTied_48 rfl ?_
                                      refine kv_iconst dX12_areTied_50 5 ki_5 ?_
                                      refine kv_iload dX12_areTied_51 rfl ?_
                                      refine kv_iadd dX12_areTied_53 ?_
                                      rw [show (5 + nI m : Int32) = nI (5 + m) from kn_add (show (5 : Int32) = nI 5 from rfl) rfl]
                                      refine kw_Vi [_, _] mX12_car dX12_areTied_54 lX12_89 wX12_car kC12 hu rfl (by first | rfl | assumption) rfl rfl rfl (by first | exact gX12_car hu eg (kCarOf g a 0) (5 + m) (by omega) (by omega) | exact gX12_car hu eg (kCarOf g a 1) (5 + m) (by omega) (by omega) ) (by decide) ?_
                                      refine kv_if_lt dX12_areTied_57 87 (by decide) (fun h37 => ?_) (fun h37 => ?_)
                                      · have hq : ¬ (¬ g (40 + 8 * (kCarOf g a 1) + (5 + m)) < 0 ∧ g (40 + 8 * (kCarOf g a 1) + (5 + m)) = g (40 + 8 * (kCarOf g b 1) + (5 + m))) := fun q => q.1 h37
                                        refine kv_iconst dX12_areTied_87 0 ki_0 ?_
                                        refine kv_iadd dX12_areTied_88 ?_
                                        refine kv_istore (ls2 := [_, _, _, _, _, _, _, _, _]) dX12_areTied_89 rfl rfl rfl rfl ?_
                                        refine kv_iinc (ls2 := [_, _, _, _, _, _, _, _, _]) dX12_areTied_91 (nI (m + 1)) rfl (kv_inc1 m) rfl rfl rfl rfl ?_
                                        refine kv_goto dX12_areTied_94 39 (by decide) ?_
                                        exact KV.loc ih (ksS (by first | rfl | exact congrArg (fun z => some (Value.int z)) ((kn_add rfl (show (1 : Int32) = nI 1 from rfl)).trans (congrArg nI (by rw [e1, if_pos hq]))) | exact congrArg (fun z => some (Value.int z)) ((kn_add rfl (show (0 : Int32) = nI 0 from rfl)).trans (congrArg nI (by rw [e1, if_neg hq])))) (ksS (by first | rfl | exact congrArg (fun z => some (Value.int z)) ((kn_add rfl (show (1 : Int32) = nI 1 from rfl)).trans (congrArg nI (by rw [e1, if_pos hq]))) | exact congrArg (fun z => some (Value.int z)) ((kn_add rfl (show (0 : Int32) = nI 0 from rfl)).trans (congrArg nI (by rw [e1, if_neg hq])))) (ksS (by first | rfl | exact congrArg (fun z => some (Value.int z)) ((kn_add rfl (show (1 : Int32) = nI 1 from rfl)).trans (congrArg nI (by rw [e1, if_pos hq]))) | exact congrArg (fun z => some (Value.int z)) ((kn_add rfl (show (0 : Int32) = nI 0 from rfl)).trans (congrArg nI (by rw [e1, if_neg hq])))) (ksS (by first | rfl | exact congrArg (fun z => some (Value.int z)) ((kn_add rfl (show (1 : Int32) = nI 1 from rfl)).trans (congrArg nI (by rw [e1, if_pos hq]))) | exact congrArg (fun z => some (Value.int z)) ((kn_add rfl (show (0 : Int32) = nI 0 from rfl)).trans (congrArg nI (by rw [e1, if_neg hq])))) (ksS (by first | rfl | exact congrArg (fun z => some (Value.int z)) ((kn_add rfl (show (1 : Int32) = nI 1 from rfl)).trans (congrArg nI (by rw [e1, if_pos hq]))) | exact congrArg (fun z => some (Value.int z)) ((kn_add rfl (show (0 : Int32) = nI 0 from rfl)).trans (congrArg nI (by rw [e1, if_neg hq])))) (ksS (by first | rfl | exact congrArg (fun z => some (Value.int z)) ((kn_add rfl (show (1 : Int32) = nI 1 from rfl)).trans (congrArg nI (by rw [e1, if_pos hq]))) | exact congrArg (fun z => some (Value.int z)) ((kn_add rfl (show (0 : Int32) = nI 0 from rfl)).trans (congrArg nI (by rw [e1, if_neg hq])))) (ksS (by first | rfl | exact congrArg (fun z => some (Value.int z)) ((kn_add rfl (show (1 : Int32) = nI 1 from rfl)).trans (congrArg nI (by rw [e1, if_pos hq]))) | exact congrArg (fun z => some (Value.int z)) ((kn_add rfl (show (0 : Int32) = nI 0 from rfl)).trans (congrArg nI (by rw [e1, if_neg hq])))) (ksS (by first | rfl | exact congrArg (fun z => some (Value.int z)) ((kn_add rfl (show (1 : Int32) = nI 1 from rfl)).trans (congrArg nI (by rw [e1, if_pos hq]))) | exact congrArg (fun z => some (Value.int z)) ((kn_add rfl (show (0 : Int32) = nI 0 from rfl)).trans (congrArg nI (by rw [e1, if_neg hq])))) (ksS (by first | rfl | exact congrArg (fun z => some (Value.int z)) ((kn_add rfl (show (1 : Int32) = nI 1 from rfl)).trans (congrArg nI (by rw [e1, if_pos hq]))) | exact congrArg (fun z => some (Value.int z)) ((kn_add rfl (show (0 : Int32) = nI 0 from rfl)).trans (congrArg nI (by rw [e1, if_neg hq])))) ksN)))))))))
                                      · have h0 := h37
                                        refine kv_aload_n dX12_areTied_60 rfl ?_
                                        refine kv_iload dX12_areTied_61 rfl ?_
                                        refine kv_iconst dX12_areTied_63 5 ki_5 ?_
                                        refine kv_iload dX12_areTied_64 rfl ?_
                                        refine kv_iadd dX12_areTied_66 ?_
                                        rw [show (5 + nI m : Int32) = nI (5 + m) from kn_add (show (5 : Int32) = nI 5 from rfl) rfl]
                                        refine kw_Vi [_, _] mX12_car dX12_areTied_67 lX12_89 wX12_car kC12 hu rfl (by first | rfl | assumption) rfl rfl rfl (by first | exact gX12_car hu eg (kCarOf g a 0) (5 + m) (by omega) (by omega) | exact gX12_car hu eg (kCarOf g a 1) (5 + m) (by omega) (by omega) ) (by decide) ?_
                                        refine kv_aload_n dX12_areTied_70 rfl ?_
                                        refine kv_iload dX12_areTied_71 rfl ?_
                                        refine kv_iconst dX12_areTied_73 5 ki_5 ?_
                                        refine kv_iload dX12_areTied_74 rfl ?_
                                        refine kv_iadd dX12_areTied_76 ?_
                                        rw [show (5 + nI m : Int32) = nI (5 + m) from kn_add (show (5 : Int32) = nI 5 from rfl) rfl]
                                        refine kw_Vi [_, _] mX12_car dX12_areTied_77 lX12_89 wX12_car kC12 hu rfl (by first | rfl | assumption) rfl rfl rfl (by first | exact gX12_car hu eg (kCarOf g b 0) (5 + m) (by omega) (by omega) | exact gX12_car hu eg (kCarOf g b 1) (5 + m) (by omega) (by omega) ) (by decide) ?_
                                        refine kv_icmp_ne dX12_areTied_80 87 (by decide) (fun h38 => ?_) (fun h38 => ?_)
                                        · have hq : ¬ (¬ g (40 + 8 * (kCarOf g a 1) + (5 + m)) < 0 ∧ g (40 + 8 * (kCarOf g a 1) + (5 + m)) = g (40 + 8 * (kCarOf g b 1) + (5 + m))) := fun q => h38 q.2
                                          refine kv_iconst dX12_areTied_87 0 ki_0 ?_
                                          refine kv_iadd dX12_areTied_88 ?_
                                          refine kv_istore (ls2 := [_, _, _, _, _, _, _, _, _]) dX12_areTied_89 rfl rfl rfl rfl ?_
                                          refine kv_iinc (ls2 := [_, _, _, _, _, _, _, _, _]) dX12_areTied_91 (nI (m + 1)) rfl (kv_inc1 m) rfl rfl rfl rfl ?_
                                          refine kv_goto dX12_areTied_94 39 (by decide) ?_
                                          exact KV.loc ih (ksS (by first | rfl | exact congrArg (fun z => some (Value.int z)) ((kn_add rfl (show (1 : Int32) = nI 1 from rfl)).trans (congrArg nI (by rw [e1, if_pos hq]))) | exact congrArg (fun z => some (Value.int z)) ((kn_add rfl (show (0 : Int32) = nI 0 from rfl)).trans (congrArg nI (by rw [e1, if_neg hq])))) (ksS (by first | rfl | exact congrArg (fun z => some (Value.int z)) ((kn_add rfl (show (1 : Int32) = nI 1 from rfl)).trans (congrArg nI (by rw [e1, if_pos hq]))) | exact congrArg (fun z => some (Value.int z)) ((kn_add rfl (show (0 : Int32) = nI 0 from rfl)).trans (congrArg nI (by rw [e1, if_neg hq])))) (ksS (by first | rfl | exact congrArg (fun z => some (Value.int z)) ((kn_add rfl (show (1 : Int32) = nI 1 from rfl)).trans (congrArg nI (by rw [e1, if_pos hq]))) | exact congrArg (fun z => some (Value.int z)) ((kn_add rfl (show (0 : Int32) = nI 0 from rfl)).trans (congrArg nI (by rw [e1, if_neg hq])))) (ksS (by first | rfl | exact congrArg (fun z => some (Value.int z)) ((kn_add rfl (show (1 : Int32) = nI 1 from rfl)).trans (congrArg nI (by rw [e1, if_pos hq]))) | exact congrArg (fun z => some (Value.int z)) ((kn_add rfl (show (0 : Int32) = nI 0 from rfl)).trans (congrArg nI (by rw [e1, if_neg hq])))) (ksS (by first | rfl | exact congrArg (fun z => some (Value.int z)) ((kn_add rfl (show (1 : Int32) = nI 1 from rfl)).trans (congrArg nI (by rw [e1, if_pos hq]))) | exact congrArg (fun z => some (Value.int z)) ((kn_add rfl (show (0 : Int32) = nI 0 from rfl)).trans (congrArg nI (by rw [e1, if_neg hq])))) (ksS (by first | rfl | exact congrArg (fun z => some (Value.int z)) ((kn_add rfl (show (1 : Int32) = nI 1 from rfl)).trans (congrArg nI (by rw [e1, if_pos hq]))) | exact congrArg (fun z => some (Value.int z)) ((kn_add rfl (show (0 : Int32) = nI 0 from rfl)).trans (congrArg nI (by rw [e1, if_neg hq])))) (ksS (by first | rfl | exact congrArg (fun z => some (Value.int z)) ((kn_add rfl (show (1 : Int32) = nI 1 from rfl)).trans (congrArg nI (by rw [e1, if_pos hq]))) | exact congrArg (fun z => some (Value.int z)) ((kn_add rfl (show (0 : Int32) = nI 0 from rfl)).trans (congrArg nI (by rw [e1, if_neg hq])))) (ksS (by first | rfl | exact congrArg (fun z => some (Value.int z)) ((kn_add rfl (show (1 : Int32) = nI 1 from rfl)).trans (congrArg nI (by rw [e1, if_pos hq]))) | exact congrArg (fun z => some (Value.int z)) ((kn_add rfl (show (0 : Int32) = nI 0 from rfl)).trans (congrArg nI (by rw [e1, if_neg hq])))) (ksS (by first | rfl | exact congrArg (fun z => some (Value.int z)) ((kn_add rfl (show (1 : Int32) = nI 1 from rfl)).trans (congrArg nI (by rw [e1, if_pos hq]))) | exact congrArg (fun z => some (Value.int z)) ((kn_add rfl (show (0 : Int32) = nI 0 from rfl)).trans (congrArg nI (by rw [e1, if_neg hq])))) ksN)))))))))
                                        · have hq : ¬ g (40 + 8 * (kCarOf g a 1) + (5 + m)) < 0 ∧ g (40 + 8 * (kCarOf g a 1) + (5 + m)) = g (40 + 8 * (kCarOf g b 1) + (5 + m)) := ⟨h0, h38⟩
                                          refine kv_iconst dX12_areTied_83 1 ki_1 ?_
                                          refine kv_goto dX12_areTied_84 88 (by decide) ?_
                                          refine kv_iadd dX12_areTied_88 ?_
                                          refine kv_istore (ls2 := [_, _, _, _, _, _, _, _, _]) dX12_areTied_89 rfl rfl rfl rfl ?_
                                          refine kv_iinc (ls2 := [_, _, _, _, _, _, _, _, _]) dX12_areTied_91 (nI (m + 1)) rfl (kv_inc1 m) rfl rfl rfl rfl ?_
                                          refine kv_goto dX12_areTied_94 39 (by decide) ?_
                                          exact KV.loc ih (ksS (by first | rfl | exact congrArg (fun z => some (Value.int z)) ((kn_add rfl (show (1 : Int32) = nI 1 from rfl)).trans (congrArg nI (by rw [e1, if_pos hq]))) | exact congrArg (fun z => some (Value.int z)) ((kn_add rfl (show (0 : Int32) = nI 0 from rfl)).trans (congrArg nI (by rw [e1, if_neg hq])))) (ksS (by first | rfl | exact congrArg (fun z => some (Value.int z)) ((kn_add rfl (show (1 : Int32) = nI 1 from rfl)).trans (congrArg nI (by rw [e1, if_pos hq]))) | exact congrArg (fun z => some (Value.int z)) ((kn_add rfl (show (0 : Int32) = nI 0 from rfl)).trans (congrArg nI (by rw [e1, if_neg hq])))) (ksS (by first | rfl | exact congrArg (fun z => some (Value.int z)) ((kn_add rfl (show (1 : Int32) = nI 1 from rfl)).trans (congrArg nI (by rw [e1, if_pos hq]))) | exact congrArg (fun z => some (Value.int z)) ((kn_add rfl (show (0 : Int32) = nI 0 from rfl)).trans (congrArg nI (by rw [e1, if_neg hq])))) (ksS (by first | rfl | exact congrArg (fun z => some (Value.int z)) ((kn_add rfl (show (1 : Int32) = nI 1 from rfl)).trans (congrArg nI (by rw [e1, if_pos hq]))) | exact congrArg (fun z => some (Value.int z)) ((kn_add rfl (show (0 : Int32) = nI 0 from rfl)).trans (congrArg nI (by rw [e1, if_neg hq])))) (ksS (by first | rfl | exact congrArg (fun z => some (Value.int z)) ((kn_add rfl (show (1 : Int32) = nI 1 from rfl)).trans (congrArg nI (by rw [e1, if_pos hq]))) | exact congrArg (fun z => some (Value.int z)) ((kn_add rfl (show (0 : Int32) = nI 0 from rfl)).trans (congrArg nI (by rw [e1, if_neg hq])))) (ksS (by first | rfl | exact congrArg (fun z => some (Value.int z)) ((kn_add rfl (show (1 : Int32) = nI 1 from rfl)).trans (congrArg nI (by rw [e1, if_pos hq]))) | exact congrArg (fun z => some (Value.int z)) ((kn_add rfl (show (0 : Int32) = nI 0 from rfl)).trans (congrArg nI (by rw [e1, if_neg hq])))) (ksS (by first | rfl | exact congrArg (fun z => some (Value.int z)) ((kn_add rfl (show (1 : Int32) = nI 1 from rfl)).trans (congrArg nI (by rw [e1, if_pos hq]))) | exact congrArg (fun z => some (Value.int z)) ((kn_add rfl (show (0 : Int32) = nI 0 from rfl)).trans (congrArg nI (by rw [e1, if_neg hq])))) (ksS (by first | rfl | exact congrArg (fun z => some (Value.int z)) ((kn_add rfl (show (1 : Int32) = nI 1 from rfl)).trans (congrArg nI (by rw [e1, if_pos hq]))) | exact congrArg (fun z => some (Value.int z)) ((kn_add rfl (show (0 : Int32) = nI 0 from rfl)).trans (congrArg nI (by rw [e1, if_neg hq])))) (ksS (by first | rfl | exact congrArg (fun z => some (Value.int z)) ((kn_add rfl (show (1 : Int32) = nI 1 from rfl)).trans (congrArg nI (by rw [e1, if_pos hq]))) | exact congrArg (fun z => some (Value.int z)) ((kn_add rfl (show (0 : Int32) = nI 0 from rfl)).trans (congrArg nI (by rw [e1, if_neg hq])))) ksN)))))))))
                              · exact absurd h31 (by decide)
                            · exact absurd (Int32.le_refl (nI 3)) h30
                          · have e1 : kAlA g (kCarOf g a 1) (kCarOf g b 0) (m + 1) = kAlA g (kCarOf g a 1) (kCarOf g b 0) m + (if ¬ g (40 + 8 * (kCarOf g a 1) + (5 + m)) < 0 ∧ g (40 + 8 * (kCarOf g a 1) + (5 + m)) = g (40 + 8 * (kCarOf g b 0) + (5 + m)) then 1 else 0) := rfl
                            refine kv_iload dX12_areTied_39 rfl ?_
                            refine kv_iconst dX12_areTied_41 3 ki_3 ?_
                            refine kv_icmp_ge dX12_areTied_42 97 (by decide) (fun h39 => ?_) (fun h39 => ?_)
                            · exact absurd h39 (kn_ge (n := 3) hm (by omega))
                            · refine kv_iload dX12_areTied_45 rfl ?_
                              refine kv_aload_n dX12_areTied_47 rfl ?_
                              refine kv_iload dX12_areTied_48 rfl ?_
                              refine kv_iconst dX12_areTied_50 5 ki_5 ?_
                              refine kv_iload dX12_areTied_51 rfl ?_
                              refine kv_iadd dX12_areTied_53 ?_
                              rw [show (5 + nI m : Int32) = nI (5 + m) from kn_add (show (5 : Int32) = nI 5 from rfl) rfl]
                              refine kw_Vi [_, _] mX12_car dX12_areTied_54 lX12_89 wX12_car kC12 hu rfl (by first | rfl | assumption) rfl rfl rfl (by first | exact gX12_car hu eg (kCarOf g a 0) (5 + m) (by omega) (by omega) | exact gX12_car hu eg (kCarOf g a 1) (5 + m) (by omega) (by omega) ) (by decide) ?_
                              refine kv_if_lt dX12_areTied_57 87 (by decide) (fun h40 => ?_) (fun h40 => ?_)
                              · have hq : ¬ (¬ g (40 + 8 * (kCarOf g a 1) + (5 + m)) < 0 ∧ g (40 + 8 * (kCarOf g a 1) + (5 + m)) = g (40 + 8 * (kCarOf g b 0) + (5 + m))) := fun q => q.1 h40
                                refine kv_iconst dX12_areTied_87 0 ki_0 ?_
                                refine kv_iadd dX12_areTied_88 ?_
                                refine kv_istore (ls2 := [_, _, _, _, _, _, _, _, _]) dX12_areTied_89 rfl rfl rfl rfl ?_
                                refine kv_iinc (ls2 := [_, _, _, _, _, _, _, _, _]) dX12_areTied_91 (nI (m + 1)) rfl (kv_inc1 m) rfl rfl rfl rfl ?_
                                refine kv_goto dX12_areTied_94 39 (by decide) ?_
                                exact KV.loc ih (ksS (by first | rfl | exact congrArg (fun z => some (Value.int z)) ((kn_add rfl (show (1 : Int32) = nI 1 from rfl)).trans (congrArg nI (by rw [e1, if_pos hq]))) | exact congrArg (fun z => some (Value.int z)) ((kn_add rfl (show (0 : Int32) = nI 0 from rfl)).trans (congrArg nI (by rw [e1, if_neg hq])))) (ksS (by first | rfl | exact congrArg (fun z => some (Value.int z)) ((kn_add rfl (show (1 : Int32) = nI 1 from rfl)).trans (congrArg nI (by rw [e1, if_pos hq]))) | exact congrArg (fun z => some (Value.int z)) ((kn_add rfl (show (0 : Int32) = nI 0 from rfl)).trans (congrArg nI (by rw [e1, if_neg hq])))) (ksS (by first | rfl | exact congrArg (fun z => some (Value.int z)) ((kn_add rfl (show (1 : Int32) = nI 1 from rfl)).trans (congrArg nI (by rw [e1, if_pos hq]))) | exact congrArg (fun z => some (Value.int z)) ((kn_add rfl (show (0 : Int32) = nI 0 from rfl)).trans (congrArg nI (by rw [e1, if_neg hq])))) (ksS (by first | rfl | exact congrArg (fun z => some (Value.int z)) ((kn_add rfl (show (1 : Int32) = nI 1 from rfl)).trans (congrArg nI (by rw [e1, if_pos hq]))) | exact congrArg (fun z => some (Value.int z)) ((kn_add rfl (show (0 : Int32) = nI 0 from rfl)).trans (congrArg nI (by rw [e1, if_neg hq])))) (ksS (by first | rfl | exact congrArg (fun z => some (Value.int z)) ((kn_add rfl (show (1 : Int32) = nI 1 from rfl)).trans (congrArg nI (by rw [e1, if_pos hq]))) | exact congrArg (fun z => some (Value.int z)) ((kn_add rfl (show (0 : Int32) = nI 0 from rfl)).trans (congrArg nI (by rw [e1, if_neg hq])))) (ksS (by first | rfl | exact congrArg (fun z => some (Value.int z)) ((kn_add rfl (show (1 : Int32) = nI 1 from rfl)).trans (congrArg nI (by rw [e1, if_pos hq]))) | exact congrArg (fun z => some (Value.int z)) ((kn_add rfl (show (0 : Int32) = nI 0 from rfl)).trans (congrArg nI (by rw [e1, if_neg hq])))) (ksS (by first | rfl | exact congrArg (fun z => some (Value.int z)) ((kn_add rfl (show (1 : Int32) = nI 1 from rfl)).trans (congrArg nI (by rw [e1, if_pos hq]))) | exact congrArg (fun z => some (Value.int z)) ((kn_add rfl (show (0 : Int32) = nI 0 from rfl)).trans (congrArg nI (by rw [e1, if_neg hq])))) (ksS (by first | rfl | exact congrArg (fun z => some (Value.int z)) ((kn_add rfl (show (1 : Int32) = nI 1 from rfl)).trans (congrArg nI (by rw [e1, if_pos hq]))) | exact congrArg (fun z => some (Value.int z)) ((kn_add rfl (show (0 : Int32) = nI 0 from rfl)).trans (congrArg nI (by rw [e1, if_neg hq])))) (ksS (by first | rfl | exact congrArg (fun z => some (Value.int z)) ((kn_add rfl (show (1 : Int32) = nI 1 from rfl)).trans (congrArg nI (by rw [e1, if_pos hq]))) | exact congrArg (fun z => some (Value.int z)) ((kn_add rfl (show (0 : Int32) = nI 0 from rfl)).trans (congrArg nI (by rw [e1, if_neg hq])))) ksN)))))))))
                              · have h0 := h40
                                refine kv_aload_n dX12_areTied_60 rfl ?_
                                refine kv_iload dX12_areTied_61 rfl ?_
                                refine kv_iconst dX12_areTied_63 5 ki_5 ?_
                                refine kv_iload dX12_areTied_64 rfl ?_
                                refine kv_iadd dX12_areTied_66 ?_
                                rw [show (5 + nI m : Int32) = nI (5 + m) from kn_add (show (5 : Int32) = nI 5 from rfl) rfl]
                                refine kw_Vi [_, _] mX12_car dX12_areTied_67 lX12_89 wX12_car kC12 hu rfl (by first | rfl | assumption) rfl rfl rfl (by first | exact gX12_car hu eg (kCarOf g a 0) (5 + m) (by omega) (by omega) | exact gX12_car hu eg (kCarOf g a 1) (5 + m) (by omega) (by omega) ) (by decide) ?_
                                refine kv_aload_n dX12_areTied_70 rfl ?_
                                refine kv_iload dX12_areTied_71 rfl ?_
                                refine kv_iconst dX12_areTied_73 5 ki_5 ?_
                                refine kv_iload dX12_areTied_74 rfl ?_
                                refine kv_iadd dX12_areTied_76 ?_
                                rw [show (5 + nI m : Int32) = nI (5 + m) from kn_add (show (5 : Int32) = nI 5 from rfl) rfl]
                                refine kw_Vi [_, _] mX12_car dX12_areTied_77 lX12_89 wX12_car kC12 hu rfl (by first | rfl | assumption) rfl rfl rfl (by first | exact gX12_car hu eg (kCarOf g b 0) (5 + m) (by omega) (by omega) | exact gX12_car hu eg (kCarOf g b 1) (5 + m) (by omega) (by omega) ) (by decide) ?_
                                refine kv_icmp_ne dX12_areTied_80 87 (by decide) (fun h41 => ?_) (fun h41 => ?_)
                                · have hq : ¬ (¬ g (40 + 8 * (kCarOf g a 1) + (5 + m)) < 0 ∧ g (40 + 8 * (kCarOf g a 1) + (5 + m)) = g (40 + 8 * (kCarOf g b 0) + (5 + m))) := fun q => h41 q.2
                                  refine kv_iconst dX12_areTied_87 0 ki_0 ?_
                                  refine kv_iadd dX12_areTied_88 ?_
                                  refine kv_istore (ls2 := [_, _, _, _, _, _, _, _, _]) dX12_areTied_89 rfl rfl rfl rfl ?_
                                  refine kv_iinc (ls2 := [_, _, _, _, _, _, _, _, _]) dX12_areTied_91 (nI (m + 1)) rfl (kv_inc1 m) rfl rfl rfl rfl ?_
                                  refine kv_goto dX12_areTied_94 39 (by decide) ?_
                                  exact KV.loc ih (ksS (by first | rfl | exact congrArg (fun z => some (Value.int z)) ((kn_add rfl (show (1 : Int32) = nI 1 from rfl)).trans (congrArg nI (by rw [e1, if_pos hq]))) | exact congrArg (fun z => some (Value.int z)) ((kn_add rfl (show (0 : Int32) = nI 0 from rfl)).trans (congrArg nI (by rw [e1, if_neg hq])))) (ksS (by first | rfl | exact congrArg (fun z => some (Value.int z)) ((kn_add rfl (show (1 : Int32) = nI 1 from rfl)).trans (congrArg nI (by rw [e1, if_pos hq]))) | exact congrArg (fun z => some (Value.int z)) ((kn_add rfl (show (0 : Int32) = nI 0 from rfl)).trans (congrArg nI (by rw [e1, if_neg hq])))) (ksS (by first | rfl | exact congrArg (fun z => some (Value.int z)) ((kn_add rfl (show (1 : Int32) = nI 1 from rfl)).trans (congrArg nI (by rw [e1, if_pos hq]))) | exact congrArg (fun z => some (Value.int z)) ((kn_add rfl (show (0 : Int32) = nI 0 from rfl)).trans (congrArg nI (by rw [e1, if_neg hq])))) (ksS (by first | rfl | exact congrArg (fun z => some (Value.int z)) ((kn_add rfl (show (1 : Int32) = nI 1 from rfl)).trans (congrArg nI (by rw [e1, if_pos hq]))) | exact congrArg (fun z => some (Value.int z)) ((kn_add rfl (show (0 : Int32) = nI 0 from rfl)).trans (congrArg nI (by rw [e1, if_neg hq])))) (ksS (by first | rfl | exact congrArg (fun z => some (Value.int z)) ((kn_add rfl (show (1 : Int32) = nI 1 from rfl)).trans (congrArg nI (by rw [e1, if_pos hq]))) | exact congrArg (fun z => some (Value.int z)) ((kn_add rfl (show (0 : Int32) = nI 0 from rfl)).trans (congrArg nI (by rw [e1, if_neg hq])))) (ksS (by first | rfl | exact congrArg (fun z => some (Value.int z)) ((kn_add rfl (show (1 : Int32) = nI 1 from rfl)).trans (congrArg nI (by rw [e1, if_pos hq]))) | exact congrArg (fun z => some (Value.int z)) ((kn_add rfl (show (0 : Int32) = nI 0 from rfl)).trans (congrArg nI (by rw [e1, if_neg hq])))) (ksS (by first | rfl | exact congrArg (fun z => some (Value.int z)) ((kn_add rfl (show (1 : Int32) = nI 1 from rfl)).trans (congrArg nI (by rw [e1, if_pos hq]))) | exact congrArg (fun z => some (Value.int z)) ((kn_add rfl (show (0 : Int32) = nI 0 from rfl)).trans (congrArg nI (by rw [e1, if_neg hq])))) (ksS (by first | rfl | exact congrArg (fun z => some (Value.int z)) ((kn_add rfl (show (1 : Int32) = nI 1 from rfl)).trans (congrArg nI (by rw [e1, if_pos hq]))) | exact congrArg (fun z => some (Value.int z)) ((kn_add rfl (show (0 : Int32) = nI 0 from rfl)).trans (congrArg nI (by rw [e1, if_neg hq])))) (ksS (by first | rfl | exact congrArg (fun z => some (Value.int z)) ((kn_add rfl (show (1 : Int32) = nI 1 from rfl)).trans (congrArg nI (by rw [e1, if_pos hq]))) | exact congrArg (fun z => some (Value.int z)) ((kn_add rfl (show (0 : Int32) = nI 0 from rfl)).trans (congrArg nI (by rw [e1, if_neg hq])))) ksN)))))))))
                                · have hq : ¬ g (40 + 8 * (kCarOf g a 1) + (5 + m)) < 0 ∧ g (40 + 8 * (kCarOf g a 1) + (5 + m)) = g (40 + 8 * (kCarOf g b 0) + (5 + m)) := ⟨h0, h41⟩
                                  refine kv_iconst dX12_areTied_83 1 ki_1 ?_
                                  refine kv_goto dX12_areTied_84 88 (by decide) ?_
                                  refine kv_iadd dX12_areTied_88 ?_
                                  refine kv_istore (ls2 := [_, _, _, _, _, _, _, _, _]) dX12_areTied_89 rfl rfl rfl rfl ?_
                                  refine kv_iinc (ls2 := [_, _, _, _, _, _, _, _, _]) dX12_areTied_91 (nI (m + 1)) rfl (kv_inc1 m) rfl rfl rfl rfl ?_
                                  refine kv_goto dX12_areTied_94 39 (by decide) ?_
                                  exact KV.loc ih (ksS (by first | rfl | exact congrArg (fun z => some (Value.int z)) ((kn_add rfl (show (1 : Int32) = nI 1 from rfl)).trans (congrArg nI (by rw [e1, if_pos hq]))) | exact congrArg (fun z => some (Value.int z)) ((kn_add rfl (show (0 : Int32) = nI 0 from rfl)).trans (congrArg nI (by rw [e1, if_neg hq])))) (ksS (by first | rfl | exact congrArg (fun z => some (Value.int z)) ((kn_add rfl (show (1 : Int32) = nI 1 from rfl)).trans (congrArg nI (by rw [e1, if_pos hq]))) | exact congrArg (fun z => some (Value.int z)) ((kn_add rfl (show (0 : Int32) = nI 0 from rfl)).trans (congrArg nI (by rw [e1, if_neg hq])))) (ksS (by first | rfl | exact congrArg (fun z => some (Value.int z)) ((kn_add rfl (show (1 : Int32) = nI 1 from rfl)).trans (congrArg nI (by rw [e1, if_pos hq]))) | exact congrArg (fun z => some (Value.int z)) ((kn_add rfl (show (0 : Int32) = nI 0 from rfl)).trans (congrArg nI (by rw [e1, if_neg hq])))) (ksS (by first | rfl | exact congrArg (fun z => some (Value.int z)) ((kn_add rfl (show (1 : Int32) = nI 1 from rfl)).trans (congrArg nI (by rw [e1, if_pos hq]))) | exact congrArg (fun z => some (Value.int z)) ((kn_add rfl (show (0 : Int32) = nI 0 from rfl)).trans (congrArg nI (by rw [e1, if_neg hq])))) (ksS (by first | rfl | exact congrArg (fun z => some (Value.int z)) ((kn_add rfl (show (1 : Int32) = nI 1 from rfl)).trans (congrArg nI (by rw [e1, if_pos hq]))) | exact congrArg (fun z => some (Value.int z)) ((kn_add rfl (show (0 : Int32) = nI 0 from rfl)).trans (congrArg nI (by rw [e1, if_neg hq])))) (ksS (by first | rfl | exact congrArg (fun z => some (Value.int z)) ((kn_add rfl (show (1 : Int32) = nI 1 from rfl)).trans (congrArg nI (by rw [e1, if_pos hq]))) | exact congrArg (fun z => some (Value.int z)) ((kn_add rfl (show (0 : Int32) = nI 0 from rfl)).trans (congrArg nI (by rw [e1, if_neg hq])))) (ksS (by first | rfl | exact congrArg (fun z => some (Value.int z)) ((kn_add rfl (show (1 : Int32) = nI 1 from rfl)).trans (congrArg nI (by rw [e1, if_pos hq]))) | exact congrArg (fun z => some (Value.int z)) ((kn_add rfl (show (0 : Int32) = nI 0 from rfl)).trans (congrArg nI (by rw [e1, if_neg hq])))) (ksS (by first | rfl | exact congrArg (fun z => some (Value.int z)) ((kn_add rfl (show (1 : Int32) = nI 1 from rfl)).trans (congrArg nI (by rw [e1, if_pos hq]))) | exact congrArg (fun z => some (Value.int z)) ((kn_add rfl (show (0 : Int32) = nI 0 from rfl)).trans (congrArg nI (by rw [e1, if_neg hq])))) (ksS (by first | rfl | exact congrArg (fun z => some (Value.int z)) ((kn_add rfl (show (1 : Int32) = nI 1 from rfl)).trans (congrArg nI (by rw [e1, if_pos hq]))) | exact congrArg (fun z => some (Value.int z)) ((kn_add rfl (show (0 : Int32) = nI 0 from rfl)).trans (congrArg nI (by rw [e1, if_neg hq])))) ksN)))))))))
                      · have ne1 : ¬ kCarOf g a 0 = kCarOf g b 1 := fun q => h28 (congrArg nI q)
                        refine kv_iload dX12_areTied_108 rfl ?_
                        refine kv_iconst dX12_areTied_110 1 ki_1 ?_
                        refine kv_icmp_le dX12_areTied_111 118 (by decide) (fun h42 => ?_) (fun h42 => ?_)
                        · have ne2 : ¬ 2 ≤ kAlA g (kCarOf g a 0) (kCarOf g b 1) 3 := fun q => nI_ge (a := 1) q (by have := kAlA_le g (kCarOf g a 0) (kCarOf g b 1) 3; omega) h42
                          refine kv_iconst dX12_areTied_118 0 ki_0 ?_
                          refine kv_istore_n (ls2 := [_, _, _, _, _, _, _, _, _]) dX12_areTied_119 rfl rfl rfl rfl ?_
                          refine kv_iinc (ls2 := [_, _, _, _, _, _, _, _, _]) dX12_areTied_120 (2 : Int32) rfl rfl rfl rfl rfl rfl ?_
                          refine kv_goto dX12_areTied_123 5 (by decide) ?_
                          refine kv_iload dX12_areTied_5 rfl ?_
                          refine kv_iconst dX12_areTied_7 4 ki_4 ?_
                          refine kv_icmp_ge dX12_areTied_8 126 (by decide) (fun h43 => ?_) (fun h43 => ?_)
                          · exact absurd h43 (by decide)
                          · refine kv_aload_n dX12_areTied_11 rfl ?_
                            refine kv_iload_n dX12_areTied_12 rfl ?_
                            refine kv_iload dX12_areTied_13 rfl ?_
                            refine kv_iconst dX12_areTied_15 2 ki_2 ?_
                            refine kv_idiv dX12_areTied_16 (by decide) ?_
                            rw [show ((2 : Int32) / 2) = 1 from rfl]
                            refine kw_Vi [_, _] mX12_carOf dX12_areTied_17 lX12_116 wX12_carOf kC12 hu rfl (by first | rfl | assumption) rfl rfl rfl (gX12_carOf hu eg a 1 (by omega) (by omega)) (by decide) ?_
                            first | rw [ca0.1] | rw [ca1.1]
                            refine kv_istore (ls2 := [_, _, _, _, _, _, _, _, _]) dX12_areTied_20 rfl rfl rfl rfl ?_
                            refine kv_aload_n dX12_areTied_22 rfl ?_
                            refine kv_iload_n dX12_areTied_23 rfl ?_
                            refine kv_iload dX12_areTied_24 rfl ?_
                            refine kv_iconst dX12_areTied_26 2 ki_2 ?_
                            refine kv_irem dX12_areTied_27 (by decide) ?_
                            rw [show ((2 : Int32) - 2 / 2 * 2) = 0 from rfl]
                            refine kw_Vi [_, _] mX12_carOf dX12_areTied_28 lX12_116 wX12_carOf kC12 hu rfl (by first | rfl | assumption) rfl rfl rfl (gX12_carOf hu eg b 0 (by omega) (by omega)) (by decide) ?_
                            first | rw [cb0.1] | rw [cb1.1]
                            refine kv_istore (ls2 := [_, _, _, _, _, _, _, _, _]) dX12_areTied_31 rfl rfl rfl rfl ?_
                            refine kv_iconst dX12_areTied_33 0 ki_0 ?_
                            refine kv_istore (ls2 := [_, _, _, _, _, _, _, _, _]) dX12_areTied_34 rfl rfl rfl rfl ?_
                            refine kv_iconst dX12_areTied_36 0 ki_0 ?_
                            refine kv_istore (ls2 := [_, _, _, _, _, _, _, _, _]) dX12_areTied_37 rfl rfl rfl rfl ?_
                            refine KV.loc (ls2 := [some (.ref 413), some (.int (nI a)), some (.int (nI b)), some (.int 0), some (.int 2), some (.int (nI (kCarOf g a 1))), some (.int (nI (kCarOf g b 0))), some (.int (nI (kAlA g (kCarOf g a 1) (kCarOf g b 0) (0)))), some (.int (nI (0)))]) ?_ (ksS rfl (ksS rfl (ksS rfl (ksS rfl (ksS rfl (ksS rfl (ksS rfl (ksS rfl (ksS rfl ksN)))))))))
                            refine kn_loop (P := fun m => KV w l mX12_areTied 2 0 0 39 [some (.ref 413), some (.int (nI a)), some (.int (nI b)), some (.int 0), some (.int 2), some (.int (nI (kCarOf g a 1))), some (.int (nI (kCarOf g b 0))), some (.int (nI (kAlA g (kCarOf g a 1) (kCarOf g b 0) (m)))), some (.int (nI (m)))] [] u (kq (some (.int (if kTie g a b then 1 else 0))) u)) (3) ?_ (fun m hm ih => ?_)
                            · refine kv_iload dX12_areTied_39 rfl ?_
                              refine kv_iconst dX12_areTied_41 3 ki_3 ?_
                              refine kv_icmp_ge dX12_areTied_42 97 (by decide) (fun h44 => ?_) (fun h44 => ?_)
                              · refine kv_iload_n dX12_areTied_97 rfl ?_
                                refine kv_if_ne dX12_areTied_98 114 (by decide) (fun h45 => ?_) (fun h45 => ?_)
                                · exact absurd h45 (by decide)
                                · refine kv_iload dX12_areTied_101 rfl ?_
                                  refine kv_iload dX12_areTied_103 rfl ?_
                                  refine kv_icmp_eq dX12_areTied_105 114 (by decide) (fun h46 => ?_) (fun h46 => ?_)
                                  · have E1 : kCarOf g a 1 = kCarOf g b 0 := (nI_eq (by omega) (by omega)).mp h46
                                    have H : kTie g a b := by
                                      first
                                      | exact Or.inl (Or.inl E1)
                                      | exact Or.inr (Or.inl (Or.inl E1))
                                      | exact Or.inr (Or.inr (Or.inl (Or.inl E1)))
                                      | exact Or.inr (Or.inr (Or.inr (Or.inl E1)))
                                    refine kv_iconst dX12_areTied_114 1 ki_1 ?_
                                    refine kv_goto dX12_areTied_115 119 (by decide) ?_
                                    refine kv_istore_n (ls2 := [_, _, _, _, _, _, _, _, _]) dX12_areTied_119 rfl rfl rfl rfl ?_
                                    refine kv_iinc (ls2 := [_, _, _, _, _, _, _, _, _]) dX12_areTied_120 (3 : Int32) rfl rfl rfl rfl rfl rfl ?_
                                    refine kv_goto dX12_areTied_123 5 (by decide) ?_
                                    refine kv_iload dX12_areTied_5 rfl ?_
                                    refine kv_iconst dX12_areTied_7 4 ki_4 ?_
                                    refine kv_icmp_ge dX12_areTied_8 126 (by decide) (fun h47 => ?_) (fun h47 => ?_)
                                    · exact absurd h47 (by decide)
                                    · refine kv_aload_n dX12_areTied_11 rfl ?_
                                      refine kv_iload_n dX12_areTied_12 rfl ?_
                                      refine kv_iload dX12_areTied_13 rfl ?_
                                      refine kv_iconst dX12_areTied_15 2 ki_2 ?_
                                      refine kv_idiv dX12_areTied_16 (by decide) ?_
                                      rw [show ((3 : Int32) / 2) = 1 from rfl]
                                      refine kw_Vi [_, _] mX12_carOf dX12_areTied_17 lX12_116 wX12_carOf kC12 hu rfl (by first | rfl | assumption) rfl rfl rfl (gX12_carOf hu eg a 1 (by omega) (by omega)) (by decide) ?_
                                      first | rw [ca0.1] | rw [ca1.1]
                                      refine kv_istore (ls2 := [_, _, _, _, _, _, _, _, _]) dX12_areTied_20 rfl rfl rfl rfl ?_
                                      refine kv_aload_n dX12_areTied_22 rfl ?_
                                      refine kv_iload_n dX12_areTied_23 rfl ?_
                                      refine kv_iload dX12_areTied_24 rfl ?_
                                      refine kv_iconst dX12_areTied_26 2 ki_2 ?_
                                      refine kv_irem dX12_areTied_27 (by decide) ?_
                                      rw [show ((3 : Int32) - 3 / 2 * 2) = 1 from rfl]
                                      refine kw_Vi [_, _] mX12_carOf dX12_areTied_28 lX12_116 wX12_carOf kC12 hu rfl (by first | rfl | assumption) rfl rfl rfl (gX12_carOf hu eg b 1 (by omega) (by omega)) (by decide) ?_
                                      first | rw [cb0.1] | rw [cb1.1]
                                      refine kv_istore (ls2 := [_, _, _, _, _, _, _, _, _]) dX12_areTied_31 rfl rfl rfl rfl ?_
                                      refine kv_iconst dX12_areTied_33 0 ki_0 ?_
                                      refine kv_istore (ls2 := [_, _, _, _, _, _, _, _, _]) dX12_areTied_34 rfl rfl rfl rfl ?_
                                      refine kv_iconst dX12_areTied_36 0 ki_0 ?_
                                      refine kv_istore (ls2 := [_, _, _, _, _, _, _, _, _]) dX12_areTied_37 rfl rfl rfl rfl ?_
                                      refine KV.loc (ls2 := [some (.ref 413), some (.int (nI a)), some (.int (nI b)), some (.int 1), some (.int 3), some (.int (nI (kCarOf g a 1))), some (.int (nI (kCarOf g b 1))), some (.int (nI (kAlA g (kCarOf g a 1) (kCarOf g b 1) (0)))), some (.int (nI (0)))]) ?_ (ksS rfl (ksS rfl (ksS rfl (ksS rfl (ksS rfl (ksS rfl (ksS rfl (ksS rfl (ksS rfl ksN)))))))))
                                      refine kn_loop (P := fun m => KV w l mX12_areTied 2 0 0 39 [some (.ref 413), some (.int (nI a)), some (.int (nI b)), some (.int 1), some (.int 3), some (.int (nI (kCarOf g a 1))), some (.int (nI (kCarOf g b 1))), some (.int (nI (kAlA g (kCarOf g a 1) (kCarOf g b 1) (m)))), some (.int (nI (m)))] [] u (kq (some (.int (if kTie g a b then 1 else 0))) u)) (3) ?_ (fun m hm ih => ?_)
                                      · refine kv_iload dX12_areTied_39 rfl ?_
                                        refine kv_iconst dX12_areTied_41 3 ki_3 ?_
                                        refine kv_icmp_ge dX12_areTied_42 97 (by decide) (fun h48 => ?_) (fun h48 => ?_)
                                        · refine kv_iload_n dX12_areTied_97 rfl ?_
                                          refine kv_if_ne dX12_areTied_98 114 (by decide) (fun h49 => ?_) (fun h49 => ?_)
                                          · refine kv_iconst dX12_areTied_114 1 ki_1 ?_
                                            refine kv_goto dX12_areTied_115 119 (by decide) ?_
                                            refine kv_istore_n (ls2 := [_, _, _, _, _, _, _, _, _]) dX12_areTied_119 rfl rfl rfl rfl ?_
                                            refine kv_iinc (ls2 := [_, _, _, _, _, _, _, _, _]) dX12_areTied_120 (4 : Int32) rfl rfl rfl rfl rfl rfl ?_
                                            refine kv_goto dX12_areTied_123 5 (by decide) ?_
                                            refine kv_iload dX12_areTied_5 rfl ?_
                                            refine kv_iconst dX12_areTied_7 4 ki_4 ?_
                                            refine kv_icmp_ge dX12_areTied_8 126 (by decide) (fun h50 => ?_) (fun h50 => ?_)
                                            · refine kv_iload_n dX12_areTied_126 rfl ?_
                                              exact kv_zret dX12_areTied_127 rfl kv_z1 (by first | exact ⟨by rw [if_pos H], rfl⟩ | exact ⟨by rw [if_neg (by rintro ((q | q) | (q | q) | (q | q) | (q | q)) <;> contradiction)], rfl⟩)
                                            · exact absurd h50 (by decide)
                                          · exact absurd h49 (by decide)
                                        · exact absurd (Int32.le_refl (nI 3)) h48
                                      · have e1 : kAlA g (kCarOf g a 1) (kCarOf g b 1) (m + 1) = kAlA g (kCarOf g a 1) (kCarOf g b 1) m + (if ¬ g (40 + 8 * (kCarOf g a 1) + (5 + m)) < 0 ∧ g (40 + 8 * (kCarOf g a 1) + (5 + m)) = g (40 + 8 * (kCarOf g b 1) + (5 + m)) then 1 else 0) := rfl
                                        refine kv_iload dX12_areTied_39 rfl ?_
                                        refine kv_iconst dX12_areTied_41 3 ki_3 ?_
                                        refine kv_icmp_ge dX12_areTied_42 97 (by decide) (fun h51 => ?_) (fun h51 => ?_)
                                        · exact absurd h51 (kn_ge (n := 3) hm (by omega))
                                        · refine kv_iload dX12_areTied_45 rfl ?_
                                          refine kv_aload_n dX12_areTied_47 rfl ?_
                                          refine kv_iload dX12_areTied_48 rfl ?_
                                          refine kv_iconst dX12_areTied_50 5 ki_5 ?_
                                          refine kv_iload dX12_areTied_51 rfl ?_
                                          refine kv_iadd dX12_areTied_53 ?_
                                          rw [show (5 + nI m : Int32) = nI (5 + m) from kn_add (show (5 : Int32) = nI 5 from rfl) rfl]
                                          refine kw_Vi [_, _] mX12_car dX12_areTied_54 lX12_89 wX12_car kC12 hu rfl (by first | rfl | assumption) rfl rfl rfl (by first | exact gX12_car hu eg (kCarOf g a 0) (5 + m) (by omega) (by omega) | exact gX12_car hu eg (kCarOf g a 1) (5 + m) (by omega) (by omega) ) (by decide) ?_
                                          refine kv_if_lt dX12_areTied_57 87 (by decide) (fun h52 => ?_) (fun h52 => ?_)
                                          · have hq : ¬ (¬ g (40 + 8 * (kCarOf g a 1) + (5 + m)) < 0 ∧ g (40 + 8 * (kCarOf g a 1) + (5 + m)) = g (40 + 8 * (kCarOf g b 1) + (5 + m))) := fun q => q.1 h52
                                            refine kv_iconst dX12_areTied_87 0 ki_0 ?_
                                            refine kv_iadd dX12_areTied_88 ?_
                                            refine kv_istore (ls2 := [_, _, _, _, _, _, _, _, _]) dX12_areTied_89 rfl rfl rfl rfl ?_
                                            refine kv_iinc (ls2 := [_, _, _, _, _, _, _, _, _]) dX12_areTied_91 (nI (m + 1)) rfl (kv_inc1 m) rfl rfl rfl rfl ?_
                                            refine kv_goto dX12_areTied_94 39 (by decide) ?_
                                            exact KV.loc ih (ksS (by first | rfl | exact congrArg (fun z => some (Value.int z)) ((kn_add rfl (show (1 : Int32) = nI 1 from rfl)).trans (congrArg nI (by rw [e1, if_pos hq]))) | exact congrArg (fun z => some (Value.int z)) ((kn_add rfl (show (0 : Int32) = nI 0 from rfl)).trans (congrArg nI (by rw [e1, if_neg hq])))) (ksS (by first | rfl | exact congrArg (fun z => some (Value.int z)) ((kn_add rfl (show (1 : Int32) = nI 1 from rfl)).trans (congrArg nI (by rw [e1, if_pos hq]))) | exact congrArg (fun z => some (Value.int z)) ((kn_add rfl (show (0 : Int32) = nI 0 from rfl)).trans (congrArg nI (by rw [e1, if_neg hq])))) (ksS (by first | rfl | exact congrArg (fun z => some (Value.int z)) ((kn_add rfl (show (1 : Int32) = nI 1 from rfl)).trans (congrArg nI (by rw [e1, if_pos hq]))) | exact congrArg (fun z => some (Value.int z)) ((kn_add rfl (show (0 : Int32) = nI 0 from rfl)).trans (congrArg nI (by rw [e1, if_neg hq])))) (ksS (by first | rfl | exact congrArg (fun z => some (Value.int z)) ((kn_add rfl (show (1 : Int32) = nI 1 from rfl)).trans (congrArg nI (by rw [e1, if_pos hq]))) | exact congrArg (fun z => some (Value.int z)) ((kn_add rfl (show (0 : Int32) = nI 0 from rfl)).trans (congrArg nI (by rw [e1, if_neg hq])))) (ksS (by first | rfl | exact congrArg (fun z => some (Value.int z)) ((kn_add rfl (show (1 : Int32) = nI 1 from rfl)).trans (congrArg nI (by rw [e1, if_pos hq]))) | exact congrArg (fun z => some (Value.int z)) ((kn_add rfl (show (0 : Int32) = nI 0 from rfl)).trans (congrArg nI (by rw [e1, if_neg hq])))) (ksS (by first | rfl | exact congrArg (fun z => some (Value.int z)) ((kn_add rfl (show (1 : Int32) = nI 1 from rfl)).trans (congrArg nI (by rw [e1, if_pos hq]))) | exact congrArg (fun z => some (Value.int z)) ((kn_add rfl (show (0 : Int32) = nI 0 from rfl)).trans (congrArg nI (by rw [e1, if_neg hq])))) (ksS (by first | rfl | exact congrArg (fun z => some (Value.int z)) ((kn_add rfl (show (1 : Int32) = nI 1 from rfl)).trans (congrArg nI (by rw [e1, if_pos hq]))) | exact congrArg (fun z => some (Value.int z)) ((kn_add rfl (show (0 : Int32) = nI 0 from rfl)).trans (congrArg nI (by rw [e1, if_neg hq])))) (ksS (by first | rfl | exact congrArg (fun z => some (Value.int z)) ((kn_add rfl (show (1 : Int32) = nI 1 from rfl)).trans (congrArg nI (by rw [e1, if_pos hq]))) | exact congrArg (fun z => some (Value.int z)) ((kn_add rfl (show (0 : Int32) = nI 0 from rfl)).trans (congrArg nI (by rw [e1, if_neg hq])))) (ksS (by first | rfl | exact congrArg (fun z => some (Value.int z)) ((kn_add rfl (show (1 : Int32) = nI 1 from rfl)).trans (congrArg nI (by rw [e1, if_pos hq]))) | exact congrArg (fun z => some (Value.int z)) ((kn_add rfl (show (0 : Int32) = nI 0 from rfl)).trans (congrArg nI (by rw [e1, if_neg hq])))) ksN)))))))))
                                          · have h0 := h52
                                            refine kv_aload_n dX12_areTied_60 rfl ?_
                                            refine kv_iload dX12_areTied_61 rfl ?_
                                            refine kv_iconst dX12_areTied_63 5 ki_5 ?_
                                            refine kv_iload dX12_areTied_64 rfl ?_
                                            refine kv_iadd dX12_areTied_66 ?_
                                            rw [show (5 + nI m : Int32) = nI (5 + m) from kn_add (show (5 : Int32) = nI 5 from rfl) rfl]
                                            refine kw_Vi [_, _] mX12_car dX12_areTied_67 lX12_89 wX12_car kC12 hu rfl (by first | rfl | assumption) rfl rfl rfl (by first | exact gX12_car hu eg (kCarOf g a 0) (5 + m) (by omega) (by omega) | exact gX12_car hu eg (kCarOf g a 1) (5 + m) (by omega) (by omega) ) (by decide) ?_
                                            refine kv_aload_n dX12_areTied_70 rfl ?_
                                            refine kv_iload dX12_areTied_71 rfl ?_
                                            refine kv_iconst dX12_areTied_73 5 ki_5 ?_
                                            refine kv_iload dX12_areTied_74 rfl ?_
                                            refine kv_iadd dX12_areTied_76 ?_
                                            rw [show (5 + nI m : Int32) = nI (5 + m) from kn_add (show (5 : Int32) = nI 5 from rfl) rfl]
                                            refine kw_Vi [_, _] mX12_car dX12_areTied_77 lX12_89 wX12_car kC12 hu rfl (by first | rfl | assumption) rfl rfl rfl (by first | exact gX12_car hu eg (kCarOf g b 0) (5 + m) (by omega) (by omega) | exact gX12_car hu eg (kCarOf g b 1) (5 + m) (by omega) (by omega) ) (by decide) ?_
                                            refine kv_icmp_ne dX12_areTied_80 87 (by decide) (fun h53 => ?_) (fun h53 => ?_)
                                            · have hq : ¬ (¬ g (40 + 8 * (kCarOf g a 1) + (5 + m)) < 0 ∧ g (40 + 8 * (kCarOf g a 1) + (5 + m)) = g (40 + 8 * (kCarOf g b 1) + (5 + m))) := fun q => h53 q.2
                                              refine kv_iconst dX12_areTied_87 0 ki_0 ?_
                                              refine kv_iadd dX12_areTied_88 ?_
                                              refine kv_istore (ls2 := [_, _, _, _, _, _, _, _, _]) dX12_areTied_89 rfl rfl rfl rfl ?_
                                              refine kv_iinc (ls2 := [_, _, _, _, _, _, _, _, _]) dX12_areTied_91 (nI (m + 1)) rfl (kv_inc1 m) rfl rfl rfl rfl ?_
                                              refine kv_goto dX12_areTied_94 39 (by decide) ?_
                                              exact KV.loc ih (ksS (by first | rfl | exact congrArg (fun z => some (Value.int z)) ((kn_add rfl (show (1 : Int32) = nI 1 from rfl)).trans (congrArg nI (by rw [e1, if_pos hq]))) | exact congrArg (fun z => some (Value.int z)) ((kn_add rfl (show (0 : Int32) = nI 0 from rfl)).trans (congrArg nI (by rw [e1, if_neg hq])))) (ksS (by first | rfl | exact congrArg (fun z => some (Value.int z)) ((kn_add rfl (show (1 : Int32) = nI 1 from rfl)).trans (congrArg nI (by rw [e1, if_pos hq]))) | exact congrArg (fun z => some (Value.int z)) ((kn_add rfl (show (0 : Int32) = nI 0 from rfl)).trans (congrArg nI (by rw [e1, if_neg hq])))) (ksS (by first | rfl | exact congrArg (fun z => some (Value.int z)) ((kn_add rfl (show (1 : Int32) = nI 1 from rfl)).trans (congrArg nI (by rw [e1, if_pos hq]))) | exact congrArg (fun z => some (Value.int z)) ((kn_add rfl (show (0 : Int32) = nI 0 from rfl)).trans (congrArg nI (by rw [e1, if_neg hq])))) (ksS (by first | rfl | exact congrArg (fun z => some (Value.int z)) ((kn_add rfl (show (1 : Int32) = nI 1 from rfl)).trans (congrArg nI (by rw [e1, if_pos hq]))) | exact congrArg (fun z => some (Value.int z)) ((kn_add rfl (show (0 : Int32) = nI 0 from rfl)).trans (congrArg nI (by rw [e1, if_neg hq])))) (ksS (by first | rfl | exact congrArg (fun z => some (Value.int z)) ((kn_add rfl (show (1 : Int32) = nI 1 from rfl)).trans (congrArg nI (by rw [e1, if_pos hq]))) | exact congrArg (fun z => some (Value.int z)) ((kn_add rfl (show (0 : Int32) = nI 0 from rfl)).trans (congrArg nI (by rw [e1, if_neg hq])))) (ksS (by first | rfl | exact congrArg (fun z => some (Value.int z)) ((kn_add rfl (show (1 : Int32) = nI 1 from rfl)).trans (congrArg nI (by rw [e1, if_pos hq]))) | exact congrArg (fun z => some (Value.int z)) ((kn_add rfl (show (0 : Int32) = nI 0 from rfl)).trans (congrArg nI (by rw [e1, if_neg hq])))) (ksS (by first | rfl | exact congrArg (fun z => some (Value.int z)) ((kn_add rfl (show (1 : Int32) = nI 1 from rfl)).trans (congrArg nI (by rw [e1, if_pos hq]))) | exact congrArg (fun z => some (Value.int z)) ((kn_add rfl (show (0 : Int32) = nI 0 from rfl)).trans (congrArg nI (by rw [e1, if_neg hq])))) (ksS (by first | rfl | exact congrArg (fun z => some (Value.int z)) ((kn_add rfl (show (1 : Int32) = nI 1 from rfl)).trans (congrArg nI (by rw [e1, if_pos hq]))) | exact congrArg (fun z => some (Value.int z)) ((kn_add rfl (show (0 : Int32) = nI 0 from rfl)).trans (congrArg nI (by rw [e1, if_neg hq])))) (ksS (by first | rfl | exact congrArg (fun z => some (Value.int z)) ((kn_add rfl (show (1 : Int32) = nI 1 from rfl)).trans (congrArg nI (by rw [e1, if_pos hq]))) | exact congrArg (fun z => some (Value.int z)) ((kn_add rfl (show (0 : Int32) = nI 0 from rfl)).trans (congrArg nI (by rw [e1, if_neg hq])))) ksN)))))))))
                                            · have hq : ¬ g (40 + 8 * (kCarOf g a 1) + (5 + m)) < 0 ∧ g (40 + 8 * (kCarOf g a 1) + (5 + m)) = g (40 + 8 * (kCarOf g b 1) + (5 + m)) := ⟨h0, h53⟩
                                              refine kv_iconst dX12_areTied_83 1 ki_1 ?_
                                              refine kv_goto dX12_areTied_84 88 (by decide) ?_
                                              refine kv_iadd dX12_areTied_88 ?_
                                              refine kv_istore (ls2 := [_, _, _, _, _, _, _, _, _]) dX12_areTied_89 rfl rfl rfl rfl ?_
                                              refine kv_iinc (ls2 := [_, _, _, _, _, _, _, _, _]) dX12_areTied_91 (nI (m + 1)) rfl (kv_inc1 m) rfl rfl rfl rfl ?_
                                              refine kv_goto dX12_areTied_94 39 (by decide) ?_
                                              exact KV.loc ih (ksS (by first | rfl | exact congrArg (fun z => some (Value.int z)) ((kn_add rfl (show (1 : Int32) = nI 1 from rfl)).trans (congrArg nI (by rw [e1, if_pos hq]))) | exact congrArg (fun z => some (Value.int z)) ((kn_add rfl (show (0 : Int32) = nI 0 from rfl)).trans (congrArg nI (by rw [e1, if_neg hq])))) (ksS (by first | rfl | exact congrArg (fun z => some (Value.int z)) ((kn_add rfl (show (1 : Int32) = nI 1 from rfl)).trans (congrArg nI (by rw [e1, if_pos hq]))) | exact congrArg (fun z => some (Value.int z)) ((kn_add rfl (show (0 : Int32) = nI 0 from rfl)).trans (congrArg nI (by rw [e1, if_neg hq])))) (ksS (by first | rfl | exact congrArg (fun z => some (Value.int z)) ((kn_add rfl (show (1 : Int32) = nI 1 from rfl)).trans (congrArg nI (by rw [e1, if_pos hq]))) | exact congrArg (fun z => some (Value.int z)) ((kn_add rfl (show (0 : Int32) = nI 0 from rfl)).trans (congrArg nI (by rw [e1, if_neg hq])))) (ksS (by first | rfl | exact congrArg (fun z => some (Value.int z)) ((kn_add rfl (show (1 : Int32) = nI 1 from rfl)).trans (congrArg nI (by rw [e1, if_pos hq]))) | exact congrArg (fun z => some (Value.int z)) ((kn_add rfl (show (0 : Int32) = nI 0 from rfl)).trans (congrArg nI (by rw [e1, if_neg hq])))) (ksS (by first | rfl | exact congrArg (fun z => some (Value.int z)) ((kn_add rfl (show (1 : Int32) = nI 1 from rfl)).trans (congrArg nI (by rw [e1, if_pos hq]))) | exact congrArg (fun z => some (Value.int z)) ((kn_add rfl (show (0 : Int32) = nI 0 from rfl)).trans (congrArg nI (by rw [e1, if_neg hq])))) (ksS (by first | rfl | exact congrArg (fun z => some (Value.int z)) ((kn_add rfl (show (1 : Int32) = nI 1 from rfl)).trans (congrArg nI (by rw [e1, if_pos hq]))) | exact congrArg (fun z => some (Value.int z)) ((kn_add rfl (show (0 : Int32) = nI 0 from rfl)).trans (congrArg nI (by rw [e1, if_neg hq])))) (ksS (by first | rfl | exact congrArg (fun z => some (Value.int z)) ((kn_add rfl (show (1 : Int32) = nI 1 from rfl)).trans (congrArg nI (by rw [e1, if_pos hq]))) | exact congrArg (fun z => some (Value.int z)) ((kn_add rfl (show (0 : Int32) = nI 0 from rfl)).trans (congrArg nI (by rw [e1, if_neg hq])))) (ksS (by first | rfl | exact congrArg (fun z => some (Value.int z)) ((kn_add rfl (show (1 : Int32) = nI 1 from rfl)).trans (congrArg nI (by rw [e1, if_pos hq]))) | exact congrArg (fun z => some (Value.int z)) ((kn_add rfl (show (0 : Int32) = nI 0 from rfl)).trans (congrArg nI (by rw [e1, if_neg hq])))) (ksS (by first | rfl | exact congrArg (fun z => some (Value.int z)) ((kn_add rfl (show (1 : Int32) = nI 1 from rfl)).trans (congrArg nI (by rw [e1, if_pos hq]))) | exact congrArg (fun z => some (Value.int z)) ((kn_add rfl (show (0 : Int32) = nI 0 from rfl)).trans (congrArg nI (by rw [e1, if_neg hq])))) ksN)))))))))
                                  · have ne1 : ¬ kCarOf g a 1 = kCarOf g b 0 := fun q => h46 (congrArg nI q)
                                    refine kv_iload dX12_areTied_108 rfl ?_
                                    refine kv_iconst dX12_areTied_110 1 ki_1 ?_
                                    refine kv_icmp_le dX12_areTied_111 118 (by decide) (fun h54 => ?_) (fun h54 => ?_)
                                    · have ne2 : ¬ 2 ≤ kAlA g (kCarOf g a 1) (kCarOf g b 0) 3 := fun q => nI_ge (a := 1) q (by have := kAlA_le g (kCarOf g a 1) (kCarOf g b 0) 3; omega) h54
                                      refine kv_iconst dX12_areTied_118 0 ki_0 ?_
                                      refine kv_istore_n (ls2 := [_, _, _, _, _, _, _, _, _]) dX12_areTied_119 rfl rfl rfl rfl ?_
                                      refine kv_iinc (ls2 := [_, _, _, _, _, _, _, _, _]) dX12_areTied_120 (3 : Int32) rfl rfl rfl rfl rfl rfl ?_
                                      refine kv_goto dX12_areTied_123 5 (by decide) ?_
                                      refine kv_iload dX12_areTied_5 rfl ?_
                                      refine kv_iconst dX12_areTied_7 4 ki_4 ?_
                                      refine kv_icmp_ge dX12_areTied_8 126 (by decide) (fun h55 => ?_) (fun h55 => ?_)
                                      · exact absurd h55 (by decide)
                                      · refine kv_aload_n dX12_areTied_11 rfl ?_
                                        refine kv_iload_n dX12_areTied_12 rfl ?_
                                        refine kv_iload dX12_areTied_13 rfl ?_
                                        refine kv_iconst dX12_areTied_15 2 ki_2 ?_
                                        refine kv_idiv dX12_areTied_16 (by decide) ?_
                                        rw [show ((3 : Int32) / 2) = 1 from rfl]
                                        refine kw_Vi [_, _] mX12_carOf dX12_areTied_17 lX12_116 wX12_carOf kC12 hu rfl (by first | rfl | assumption) rfl rfl rfl (gX12_carOf hu eg a 1 (by omega) (by omega)) (by decide) ?_
                                        first | rw [ca0.1] | rw [ca1.1]
                                        refine kv_istore (ls2 := [_, _, _, _, _, _, _, _, _]) dX12_areTied_20 rfl rfl rfl rfl ?_
                                        refine kv_aload_n dX12_areTied_22 rfl ?_
                                        refine kv_iload_n dX12_areTied_23 rfl ?_
                                        refine kv_iload dX12_areTied_24 rfl ?_
                                        refine kv_iconst dX12_areTied_26 2 ki_2 ?_
                                        refine kv_irem dX12_areTied_27 (by decide) ?_
                                        rw [show ((3 : Int32) - 3 / 2 * 2) = 1 from rfl]
                                        refine kw_Vi [_, _] mX12_carOf dX12_areTied_28 lX12_116 wX12_carOf kC12 hu rfl (by first | rfl | assumption) rfl rfl rfl (gX12_carOf hu eg b 1 (by omega) (by omega)) (by decide) ?_
                                        first | rw [cb0.1] | rw [cb1.1]
                                        refine kv_istore (ls2 := [_, _, _, _, _, _, _, _, _]) dX12_areTied_31 rfl rfl rfl rfl ?_
                                        refine kv_iconst dX12_areTied_33 0 ki_0 ?_
                                        refine kv_istore (ls2 := [_, _, _, _, _, _, _, _, _]) dX12_areTied_34 rfl rfl rfl rfl ?_
                                        refine kv_iconst dX12_areTied_36 0 ki_0 ?_
                                        refine kv_istore (ls2 := [_, _, _, _, _, _, _, _, _]) dX12_areTied_37 rfl rfl rfl rfl ?_
                                        refine KV.loc (ls2 := [some (.ref 413), some (.int (nI a)), some (.int (nI b)), some (.int 0), some (.int 3), some (.int (nI (kCarOf g a 1))), some (.int (nI (kCarOf g b 1))), some (.int (nI (kAlA g (kCarOf g a 1) (kCarOf g b 1) (0)))), some (.int (nI (0)))]) ?_ (ksS rfl (ksS rfl (ksS rfl (ksS rfl (ksS rfl (ksS rfl (ksS rfl (ksS rfl (ksS rfl ksN)))))))))
                                        refine kn_loop (P := fun m => KV w l mX12_areTied 2 0 0 39 [some (.ref 413), some (.int (nI a)), some (.int (nI b)), some (.int 0), some (.int 3), some (.int (nI (kCarOf g a 1))), some (.int (nI (kCarOf g b 1))), some (.int (nI (kAlA g (kCarOf g a 1) (kCarOf g b 1) (m)))), some (.int (nI (m)))] [] u (kq (some (.int (if kTie g a b then 1 else 0))) u)) (3) ?_ (fun m hm ih => ?_)
                                        · refine kv_iload dX12_areTied_39 rfl ?_
                                          refine kv_iconst dX12_areTied_41 3 ki_3 ?_
                                          refine kv_icmp_ge dX12_areTied_42 97 (by decide) (fun h56 => ?_) (fun h56 => ?_)
                                          · refine kv_iload_n dX12_areTied_97 rfl ?_
                                            refine kv_if_ne dX12_areTied_98 114 (by decide) (fun h57 => ?_) (fun h57 => ?_)
                                            · exact absurd h57 (by decide)
                                            · refine kv_iload dX12_areTied_101 rfl ?_
                                              refine kv_iload dX12_areTied_103 rfl ?_
                                              refine kv_icmp_eq dX12_areTied_105 114 (by decide) (fun h58 => ?_) (fun h58 => ?_)
                                              · have E1 : kCarOf g a 1 = kCarOf g b 1 := (nI_eq (by omega) (by omega)).mp h58
                                                have H : kTie g a b := by
                                                  first
                                                  | exact Or.inl (Or.inl E1)
                                                  | exact Or.inr (Or.inl (Or.inl E1))
                                                  | exact Or.inr (Or.inr (Or.inl (Or.inl E1)))
                                                  | exact Or.inr (Or.inr (Or.inr (Or.inl E1)))
                                                refine kv_iconst dX12_areTied_114 1 ki_1 ?_
                                                refine kv_goto dX12_areTied_115 119 (by decide) ?_
                                                refine kv_istore_n (ls2 := [_, _, _, _, _, _, _, _, _]) dX12_areTied_119 rfl rfl rfl rfl ?_
                                                refine kv_iinc (ls2 := [_, _, _, _, _, _, _, _, _]) dX12_areTied_120 (4 : Int32) rfl rfl rfl rfl rfl rfl ?_
                                                refine kv_goto dX12_areTied_123 5 (by decide) ?_
                                                refine kv_iload dX12_areTied_5 rfl ?_
                                                refine kv_iconst dX12_areTied_7 4 ki_4 ?_
                                                refine kv_icmp_ge dX12_areTied_8 126 (by decide) (fun h59 => ?_) (fun h59 => ?_)
                                                · refine kv_iload_n dX12_areTied_126 rfl ?_
                                                  exact kv_zret dX12_areTied_127 rfl kv_z1 (by first | exact ⟨by rw [if_pos H], rfl⟩ | exact ⟨by rw [if_neg (by rintro ((q | q) | (q | q) | (q | q) | (q | q)) <;> contradiction)], rfl⟩)
                                                · exact absurd h59 (by decide)
                                              · have ne1 : ¬ kCarOf g a 1 = kCarOf g b 1 := fun q => h58 (congrArg nI q)
                                                refine kv_iload dX12_areTied_108 rfl ?_
                                                refine kv_iconst dX12_areTied_110 1 ki_1 ?_
                                                refine kv_icmp_le dX12_areTied_111 118 (by decide) (fun h60 => ?_) (fun h60 => ?_)
                                                · have ne2 : ¬ 2 ≤ kAlA g (kCarOf g a 1) (kCarOf g b 1) 3 := fun q => nI_ge (a := 1) q (by have := kAlA_le g (kCarOf g a 1) (kCarOf g b 1) 3; omega) h60
                                                  refine kv_iconst dX12_areTied_118 0 ki_0 ?_
                                                  refine kv_istore_n (ls2 := [_, _, _, _, _, _, _, _, _]) dX12_areTied_119 rfl rfl rfl rfl ?_
                                                  refine kv_iinc (ls2 := [_, _, _, _, _, _, _, _, _]) dX12_areTied_120 (4 : Int32) rfl rfl rfl rfl rfl rfl ?_
                                                  refine kv_goto dX12_areTied_123 5 (by decide) ?_
                                                  refine kv_iload dX12_areTied_5 rfl ?_
                                                  refine kv_iconst dX12_areTied_7 4 ki_4 ?_
                                                  refine kv_icmp_ge dX12_areTied_8 126 (by decide) (fun h61 => ?_) (fun h61 => ?_)
                                                  · refine kv_iload_n dX12_areTied_126 rfl ?_
                                                    exact kv_zret dX12_areTied_127 rfl kv_z0 (by first | exact ⟨by rw [if_pos H], rfl⟩ | exact ⟨by rw [if_neg (by rintro ((q | q) | (q | q) | (q | q) | (q | q)) <;> contradiction)], rfl⟩)
                                                  · exact absurd h61 (by decide)
                                                · have E2 : 2 ≤ kAlA g (kCarOf g a 1) (kCarOf g b 1) 3 := Nat.lt_of_not_le (fun q => h60 (nI_le (b := 1) q (by omega)))
                                                  have H : kTie g a b := by
                                                    first
                                                    | exact Or.inl (Or.inr E2)
                                                    | exact Or.inr (Or.inl (Or.inr E2))
                                                    | exact Or.inr (Or.inr (Or.inl (Or.inr E2)))
                                                    | exact Or.inr (Or.inr (Or.inr (Or.inr E2)))
                                                  refine kv_iconst dX12_areTied_114 1 ki_1 ?_
                                                  refine kv_goto dX12_areTied_115 119 (by decide) ?_
                                                  refine kv_istore_n (ls2 := [_, _, _, _, _, _, _, _, _]) dX12_areTied_119 rfl rfl rfl rfl ?_
                                                  refine kv_iinc (ls2 := [_, _, _, _, _, _, _, _, _]) dX12_areTied_120 (4 : Int32) rfl rfl rfl rfl rfl rfl ?_
                                                  refine kv_goto dX12_areTied_123 5 (by decide) ?_
                                                  refine kv_iload dX12_areTied_5 rfl ?_
                                                  refine kv_iconst dX12_areTied_7 4 ki_4 ?_
                                                  refine kv_icmp_ge dX12_areTied_8 126 (by decide) (fun h62 => ?_) (fun h62 => ?_)
                                                  · refine kv_iload_n dX12_areTied_126 rfl ?_
                                                    exact kv_zret dX12_areTied_127 rfl kv_z1 (by first | exact ⟨by rw [if_pos H], rfl⟩ | exact ⟨by rw [if_neg (by rintro ((q | q) | (q | q) | (q | q) | (q | q)) <;> contradiction)], rfl⟩)
                                                  · exact absurd h62 (by decide)
                                          · exact absurd (Int32.le_refl (nI 3)) h56
                                        · have e1 : kAlA g (kCarOf g a 1) (kCarOf g b 1) (m + 1) = kAlA g (kCarOf g a 1) (kCarOf g b 1) m + (if ¬ g (40 + 8 * (kCarOf g a 1) + (5 + m)) < 0 ∧ g (40 + 8 * (kCarOf g a 1) + (5 + m)) = g (40 + 8 * (kCarOf g b 1) + (5 + m)) then 1 else 0) := rfl
                                          refine kv_iload dX12_areTied_39 rfl ?_
                                          refine kv_iconst dX12_areTied_41 3 ki_3 ?_
                                          refine kv_icmp_ge dX12_areTied_42 97 (by decide) (fun h63 => ?_) (fun h63 => ?_)
                                          · exact absurd h63 (kn_ge (n := 3) hm (by omega))
                                          · refine kv_iload dX12_areTied_45 rfl ?_
                                            refine kv_aload_n dX12_areTied_47 rfl ?_
                                            refine kv_iload dX12_areTied_48 rfl ?_
                                            refine kv_iconst dX12_areTied_50 5 ki_5 ?_
                                            refine kv_iload dX12_areTied_51 rfl ?_
                                            refine kv_iadd dX12_areTied_53 ?_
                                            rw [show (5 + nI m : Int32) = nI (5 + m) from kn_add (show (5 : Int32) = nI 5 from rfl) rfl]
                                            refine kw_Vi [_, _] mX12_car dX12_areTied_54 lX12_89 wX12_car kC12 hu rfl (by first | rfl | assumption) rfl rfl rfl (by first | exact gX12_car hu eg (kCarOf g a 0) (5 + m) (by omega) (by omega) | exact gX12_car hu eg (kCarOf g a 1) (5 + m) (by omega) (by omega) ) (by decide) ?_
                                            refine kv_if_lt dX12_areTied_57 87 (by decide) (fun h64 => ?_) (fun h64 => ?_)
                                            · have hq : ¬ (¬ g (40 + 8 * (kCarOf g a 1) + (5 + m)) < 0 ∧ g (40 + 8 * (kCarOf g a 1) + (5 + m)) = g (40 + 8 * (kCarOf g b 1) + (5 + m))) := fun q => q.1 h64
                                              refine kv_iconst dX12_areTied_87 0 ki_0 ?_
                                              refine kv_iadd dX12_areTied_88 ?_
                                              refine kv_istore (ls2 := [_, _, _, _, _, _, _, _, _]) dX12_areTied_89 rfl rfl rfl rfl ?_
                                              refine kv_iinc (ls2 := [_, _, _, _, _, _, _, _, _]) dX12_areTied_91 (nI (m + 1)) rfl (kv_inc1 m) rfl rfl rfl rfl ?_
                                              refine kv_goto dX12_areTied_94 39 (by decide) ?_
                                              exact KV.loc ih (ksS (by first | rfl | exact congrArg (fun z => some (Value.int z)) ((kn_add rfl (show (1 : Int32) = nI 1 from rfl)).trans (congrArg nI (by rw [e1, if_pos hq]))) | exact congrArg (fun z => some (Value.int z)) ((kn_add rfl (show (0 : Int32) = nI 0 from rfl)).trans (congrArg nI (by rw [e1, if_neg hq])))) (ksS (by first | rfl | exact congrArg (fun z => some (Value.int z)) ((kn_add rfl (show (1 : Int32) = nI 1 from rfl)).trans (congrArg nI (by rw [e1, if_pos hq]))) | exact congrArg (fun z => some (Value.int z)) ((kn_add rfl (show (0 : Int32) = nI 0 from rfl)).trans (congrArg nI (by rw [e1, if_neg hq])))) (ksS (by first | rfl | exact congrArg (fun z => some (Value.int z)) ((kn_add rfl (show (1 : Int32) = nI 1 from rfl)).trans (congrArg nI (by rw [e1, if_pos hq]))) | exact congrArg (fun z => some (Value.int z)) ((kn_add rfl (show (0 : Int32) = nI 0 from rfl)).trans (congrArg nI (by rw [e1, if_neg hq])))) (ksS (by first | rfl | exact congrArg (fun z => some (Value.int z)) ((kn_add rfl (show (1 : Int32) = nI 1 from rfl)).trans (congrArg nI (by rw [e1, if_pos hq]))) | exact congrArg (fun z => some (Value.int z)) ((kn_add rfl (show (0 : Int32) = nI 0 from rfl)).trans (congrArg nI (by rw [e1, if_neg hq])))) (ksS (by first | rfl | exact congrArg (fun z => some (Value.int z)) ((kn_add rfl (show (1 : Int32) = nI 1 from rfl)).trans (congrArg nI (by rw [e1, if_pos hq]))) | exact congrArg (fun z => some (Value.int z)) ((kn_add rfl (show (0 : Int32) = nI 0 from rfl)).trans (congrArg nI (by rw [e1, if_neg hq])))) (ksS (by first | rfl | exact congrArg (fun z => some (Value.int z)) ((kn_add rfl (show (1 : Int32) = nI 1 from rfl)).trans (congrArg nI (by rw [e1, if_pos hq]))) | exact congrArg (fun z => some (Value.int z)) ((kn_add rfl (show (0 : Int32) = nI 0 from rfl)).trans (congrArg nI (by rw [e1, if_neg hq])))) (ksS (by first | rfl | exact congrArg (fun z => some (Value.int z)) ((kn_add rfl (show (1 : Int32) = nI 1 from rfl)).trans (congrArg nI (by rw [e1, if_pos hq]))) | exact congrArg (fun z => some (Value.int z)) ((kn_add rfl (show (0 : Int32) = nI 0 from rfl)).trans (congrArg nI (by rw [e1, if_neg hq])))) (ksS (by first | rfl | exact congrArg (fun z => some (Value.int z)) ((kn_add rfl (show (1 : Int32) = nI 1 from rfl)).trans (congrArg nI (by rw [e1, if_pos hq]))) | exact congrArg (fun z => some (Value.int z)) ((kn_add rfl (show (0 : Int32) = nI 0 from rfl)).trans (congrArg nI (by rw [e1, if_neg hq])))) (ksS (by first | rfl | exact congrArg (fun z => some (Value.int z)) ((kn_add rfl (show (1 : Int32) = nI 1 from rfl)).trans (congrArg nI (by rw [e1, if_pos hq]))) | exact congrArg (fun z => some (Value.int z)) ((kn_add rfl (show (0 : Int32) = nI 0 from rfl)).trans (congrArg nI (by rw [e1, if_neg hq])))) ksN)))))))))
                                            · have h0 := h64
                                              refine kv_aload_n dX12_areTied_60 rfl ?_
                                              refine kv_iload dX12_areTied_61 rfl ?_
                                              refine kv_iconst dX12_areTied_63 5 ki_5 ?_
                                              refine kv_iload dX12_areTied_64 rfl ?_
                                              refine kv_iadd dX12_areTied_66 ?_
                                              rw [show (5 + nI m : Int32) = nI (5 + m) from kn_add (show (5 : Int32) = nI 5 from rfl) rfl]
                                              refine kw_Vi [_, _] mX12_car dX12_areTied_67 lX12_89 wX12_car kC12 hu rfl (by first | rfl | assumption) rfl rfl rfl (by first | exact gX12_car hu eg (kCarOf g a 0) (5 + m) (by omega) (by omega) | exact gX12_car hu eg (kCarOf g a 1) (5 + m) (by omega) (by omega) ) (by decide) ?_
                                              refine kv_aload_n dX12_areTied_70 rfl ?_
                                              refine kv_iload dX12_areTied_71 rfl ?_
                                              refine kv_iconst dX12_areTied_73 5 ki_5 ?_
                                              refine kv_iload dX12_areTied_74 rfl ?_
                                              refine kv_iadd dX12_areTied_76 ?_
                                              rw [show (5 + nI m : Int32) = nI (5 + m) from kn_add (show (5 : Int32) = nI 5 from rfl) rfl]
                                              refine kw_Vi [_, _] mX12_car dX12_areTied_77 lX12_89 wX12_car kC12 hu rfl (by first | rfl | assumption) rfl rfl rfl (by first | exact gX12_car hu eg (kCarOf g b 0) (5 + m) (by omega) (by omega) | exact gX12_car hu eg (kCarOf g b 1) (5 + m) (by omega) (by omega) ) (by decide) ?_
                                              refine kv_icmp_ne dX12_areTied_80 87 (by decide) (fun h65 => ?_) (fun h65 => ?_)
                                              · have hq : ¬ (¬ g (40 + 8 * (kCarOf g a 1) + (5 + m)) < 0 ∧ g (40 + 8 * (kCarOf g a 1) + (5 + m)) = g (40 + 8 * (kCarOf g b 1) + (5 + m))) := fun q => h65 q.2
                                                refine kv_iconst dX12_areTied_87 0 ki_0 ?_
                                                refine kv_iadd dX12_areTied_88 ?_
                                                refine kv_istore (ls2 := [_, _, _, _, _, _, _, _, _]) dX12_areTied_89 rfl rfl rfl rfl ?_
                                                refine kv_iinc (ls2 := [_, _, _, _, _, _, _, _, _]) dX12_areTied_91 (nI (m + 1)) rfl (kv_inc1 m) rfl rfl rfl rfl ?_
                                                refine kv_goto dX12_areTied_94 39 (by decide) ?_
                                                exact KV.loc ih (ksS (by first | rfl | exact congrArg (fun z => some (Value.int z)) ((kn_add rfl (show (1 : Int32) = nI 1 from rfl)).trans (congrArg nI (by rw [e1, if_pos hq]))) | exact congrArg (fun z => some (Value.int z)) ((kn_add rfl (show (0 : Int32) = nI 0 from rfl)).trans (congrArg nI (by rw [e1, if_neg hq])))) (ksS (by first | rfl | exact congrArg (fun z => some (Value.int z)) ((kn_add rfl (show (1 : Int32) = nI 1 from rfl)).trans (congrArg nI (by rw [e1, if_pos hq]))) | exact congrArg (fun z => some (Value.int z)) ((kn_add rfl (show (0 : Int32) = nI 0 from rfl)).trans (congrArg nI (by rw [e1, if_neg hq])))) (ksS (by first | rfl | exact congrArg (fun z => some (Value.int z)) ((kn_add rfl (show (1 : Int32) = nI 1 from rfl)).trans (congrArg nI (by rw [e1, if_pos hq]))) | exact congrArg (fun z => some (Value.int z)) ((kn_add rfl (show (0 : Int32) = nI 0 from rfl)).trans (congrArg nI (by rw [e1, if_neg hq])))) (ksS (by first | rfl | exact congrArg (fun z => some (Value.int z)) ((kn_add rfl (show (1 : Int32) = nI 1 from rfl)).trans (congrArg nI (by rw [e1, if_pos hq]))) | exact congrArg (fun z => some (Value.int z)) ((kn_add rfl (show (0 : Int32) = nI 0 from rfl)).trans (congrArg nI (by rw [e1, if_neg hq])))) (ksS (by first | rfl | exact congrArg (fun z => some (Value.int z)) ((kn_add rfl (show (1 : Int32) = nI 1 from rfl)).trans (congrArg nI (by rw [e1, if_pos hq]))) | exact congrArg (fun z => some (Value.int z)) ((kn_add rfl (show (0 : Int32) = nI 0 from rfl)).trans (congrArg nI (by rw [e1, if_neg hq])))) (ksS (by first | rfl | exact congrArg (fun z => some (Value.int z)) ((kn_add rfl (show (1 : Int32) = nI 1 from rfl)).trans (congrArg nI (by rw [e1, if_pos hq]))) | exact congrArg (fun z => some (Value.int z)) ((kn_add rfl (show (0 : Int32) = nI 0 from rfl)).trans (congrArg nI (by rw [e1, if_neg hq])))) (ksS (by first | rfl | exact congrArg (fun z => some (Value.int z)) ((kn_add rfl (show (1 : Int32) = nI 1 from rfl)).trans (congrArg nI (by rw [e1, if_pos hq]))) | exact congrArg (fun z => some (Value.int z)) ((kn_add rfl (show (0 : Int32) = nI 0 from rfl)).trans (congrArg nI (by rw [e1, if_neg hq])))) (ksS (by first | rfl | exact congrArg (fun z => some (Value.int z)) ((kn_add rfl (show (1 : Int32) = nI 1 from rfl)).trans (congrArg nI (by rw [e1, if_pos hq]))) | exact congrArg (fun z => some (Value.int z)) ((kn_add rfl (show (0 : Int32) = nI 0 from rfl)).trans (congrArg nI (by rw [e1, if_neg hq])))) (ksS (by first | rfl | exact congrArg (fun z => some (Value.int z)) ((kn_add rfl (show (1 : Int32) = nI 1 from rfl)).trans (congrArg nI (by rw [e1, if_pos hq]))) | exact congrArg (fun z => some (Value.int z)) ((kn_add rfl (show (0 : Int32) = nI 0 from rfl)).trans (congrArg nI (by rw [e1, if_neg hq])))) ksN)))))))))
                                              · have hq : ¬ g (40 + 8 * (kCarOf g a 1) + (5 + m)) < 0 ∧ g (40 + 8 * (kCarOf g a 1) + (5 + m)) = g (40 + 8 * (kCarOf g b 1) + (5 + m)) := ⟨h0, h65⟩
                                                refine kv_iconst dX12_areTied_83 1 ki_1 ?_
                                                refine kv_goto dX12_areTied_84 88 (by decide) ?_
                                                refine kv_iadd dX12_areTied_88 ?_
                                                refine kv_istore (ls2 := [_, _, _, _, _, _, _, _, _]) dX12_areTied_89 rfl rfl rfl rfl ?_
                                                refine kv_iinc (ls2 := [_, _, _, _, _, _, _, _, _]) dX12_areTied_91 (nI (m + 1)) rfl (kv_inc1 m) rfl rfl rfl rfl ?_
                                                refine kv_goto dX12_areTied_94 39 (by decide) ?_
                                                exact KV.loc ih (ksS (by first | rfl | exact congrArg (fun z => some (Value.int z)) ((kn_add rfl (show (1 : Int32) = nI 1 from rfl)).trans (congrArg nI (by rw [e1, if_pos hq]))) | exact congrArg (fun z => some (Value.int z)) ((kn_add rfl (show (0 : Int32) = nI 0 from rfl)).trans (congrArg nI (by rw [e1, if_neg hq])))) (ksS (by first | rfl | exact congrArg (fun z => some (Value.int z)) ((kn_add rfl (show (1 : Int32) = nI 1 from rfl)).trans (congrArg nI (by rw [e1, if_pos hq]))) | exact congrArg (fun z => some (Value.int z)) ((kn_add rfl (show (0 : Int32) = nI 0 from rfl)).trans (congrArg nI (by rw [e1, if_neg hq])))) (ksS (by first | rfl | exact congrArg (fun z => some (Value.int z)) ((kn_add rfl (show (1 : Int32) = nI 1 from rfl)).trans (congrArg nI (by rw [e1, if_pos hq]))) | exact congrArg (fun z => some (Value.int z)) ((kn_add rfl (show (0 : Int32) = nI 0 from rfl)).trans (congrArg nI (by rw [e1, if_neg hq])))) (ksS (by first | rfl | exact congrArg (fun z => some (Value.int z)) ((kn_add rfl (show (1 : Int32) = nI 1 from rfl)).trans (congrArg nI (by rw [e1, if_pos hq]))) | exact congrArg (fun z => some (Value.int z)) ((kn_add rfl (show (0 : Int32) = nI 0 from rfl)).trans (congrArg nI (by rw [e1, if_neg hq])))) (ksS (by first | rfl | exact congrArg (fun z => some (Value.int z)) ((kn_add rfl (show (1 : Int32) = nI 1 from rfl)).trans (congrArg nI (by rw [e1, if_pos hq]))) | exact congrArg (fun z => some (Value.int z)) ((kn_add rfl (show (0 : Int32) = nI 0 from rfl)).trans (congrArg nI (by rw [e1, if_neg hq])))) (ksS (by first | rfl | exact congrArg (fun z => some (Value.int z)) ((kn_add rfl (show (1 : Int32) = nI 1 from rfl)).trans (congrArg nI (by rw [e1, if_pos hq]))) | exact congrArg (fun z => some (Value.int z)) ((kn_add rfl (show (0 : Int32) = nI 0 from rfl)).trans (congrArg nI (by rw [e1, if_neg hq])))) (ksS (by first | rfl | exact congrArg (fun z => some (Value.int z)) ((kn_add rfl (show (1 : Int32) = nI 1 from rfl)).trans (congrArg nI (by rw [e1, if_pos hq]))) | exact congrArg (fun z => some (Value.int z)) ((kn_add rfl (show (0 : Int32) = nI 0 from rfl)).trans (congrArg nI (by rw [e1, if_neg hq])))) (ksS (by first | rfl | exact congrArg (fun z => some (Value.int z)) ((kn_add rfl (show (1 : Int32) = nI 1 from rfl)).trans (congrArg nI (by rw [e1, if_pos hq]))) | exact congrArg (fun z => some (Value.int z)) ((kn_add rfl (show (0 : Int32) = nI 0 from rfl)).trans (congrArg nI (by rw [e1, if_neg hq])))) (ksS (by first | rfl | exact congrArg (fun z => some (Value.int z)) ((kn_add rfl (show (1 : Int32) = nI 1 from rfl)).trans (congrArg nI (by rw [e1, if_pos hq]))) | exact congrArg (fun z => some (Value.int z)) ((kn_add rfl (show (0 : Int32) = nI 0 from rfl)).trans (congrArg nI (by rw [e1, if_neg hq])))) ksN)))))))))
                                    · have E2 : 2 ≤ kAlA g (kCarOf g a 1) (kCarOf g b 0) 3 := Nat.lt_of_not_le (fun q => h54 (nI_le (b := 1) q (by omega)))
                                      have H : kTie g a b := by
                                        first
                                        | exact Or.inl (Or.inr E2)
                                        | exact Or.inr (Or.inl (Or.inr E2))
                                        | exact Or.inr (Or.inr (Or.inl (Or.inr E2)))
                                        | exact Or.inr (Or.inr (Or.inr (Or.inr E2)))
                                      refine kv_iconst dX12_areTied_114 1 ki_1 ?_
                                      refine kv_goto dX12_areTied_115 119 (by decide) ?_
                                      refine kv_istore_n (ls2 := [_, _, _, _, _, _, _, _, _]) dX12_areTied_119 rfl rfl rfl rfl ?_
                                      refine kv_iinc (ls2 := [_, _, _, _, _, _, _, _, _]) dX12_areTied_120 (3 : Int32) rfl rfl rfl rfl rfl rfl ?_
                                      refine kv_goto dX12_areTied_123 5 (by decide) ?_
                                      refine kv_iload dX12_areTied_5 rfl ?_
                                      refine kv_iconst dX12_areTied_7 4 ki_4 ?_
                                      refine kv_icmp_ge dX12_areTied_8 126 (by decide) (fun h66 => ?_) (fun h66 => ?_)
                                      · exact absurd h66 (by decide)
                                      · refine kv_aload_n dX12_areTied_11 rfl ?_
                                        refine kv_iload_n dX12_areTied_12 rfl ?_
                                        refine kv_iload dX12_areTied_13 rfl ?_
                                        refine kv_iconst dX12_areTied_15 2 ki_2 ?_
                                        refine kv_idiv dX12_areTied_16 (by decide) ?_
                                        rw [show ((3 : Int32) / 2) = 1 from rfl]
                                        refine kw_Vi [_, _] mX12_carOf dX12_areTied_17 lX12_116 wX12_carOf kC12 hu rfl (by first | rfl | assumption) rfl rfl rfl (gX12_carOf hu eg a 1 (by omega) (by omega)) (by decide) ?_
                                        first | rw [ca0.1] | rw [ca1.1]
                                        refine kv_istore (ls2 := [_, _, _, _, _, _, _, _, _]) dX12_areTied_20 rfl rfl rfl rfl ?_
                                        refine kv_aload_n dX12_areTied_22 rfl ?_
                                        refine kv_iload_n dX12_areTied_23 rfl ?_
                                        refine kv_iload dX12_areTied_24 rfl ?_
                                        refine kv_iconst dX12_areTied_26 2 ki_2 ?_
                                        refine kv_irem dX12_areTied_27 (by decide) ?_
                                        rw [show ((3 : Int32) - 3 / 2 * 2) = 1 from rfl]
                                        refine kw_Vi [_, _] mX12_carOf dX12_areTied_28 lX12_116 wX12_carOf kC12 hu rfl (by first | rfl | assumption) rfl rfl rfl (gX12_carOf hu eg b 1 (by omega) (by omega)) (by decide) ?_
                                        first | rw [cb0.1] | rw [cb1.1]
                                        refine kv_istore (ls2 := [_, _, _, _, _, _, _, _, _]) dX12_areTied_31 rfl rfl rfl rfl ?_
                                        refine kv_iconst dX12_areTied_33 0 ki_0 ?_
                                        refine kv_istore (ls2 := [_, _, _, _, _, _, _, _, _]) dX12_areTied_34 rfl rfl rfl rfl ?_
                                        refine kv_iconst dX12_areTied_36 0 ki_0 ?_
                                        refine kv_istore (ls2 := [_, _, _, _, _, _, _, _, _]) dX12_areTied_37 rfl rfl rfl rfl ?_
                                        refine KV.loc (ls2 := [some (.ref 413), some (.int (nI a)), some (.int (nI b)), some (.int 1), some (.int 3), some (.int (nI (kCarOf g a 1))), some (.int (nI (kCarOf g b 1))), some (.int (nI (kAlA g (kCarOf g a 1) (kCarOf g b 1) (0)))), some (.int (nI (0)))]) ?_ (ksS rfl (ksS rfl (ksS rfl (ksS rfl (ksS rfl (ksS rfl (ksS rfl (ksS rfl (ksS rfl ksN)))))))))
                                        refine kn_loop (P := fun m => KV w l mX12_areTied 2 0 0 39 [some (.ref 413), some (.int (nI a)), some (.int (nI b)), some (.int 1), some (.int 3), some (.int (nI (kCarOf g a 1))), some (.int (nI (kCarOf g b 1))), some (.int (nI (kAlA g (kCarOf g a 1) (kCarOf g b 1) (m)))), some (.int (nI (m)))] [] u (kq (some (.int (if kTie g a b then 1 else 0))) u)) (3) ?_ (fun m hm ih => ?_)
                                        · refine kv_iload dX12_areTied_39 rfl ?_
                                          refine kv_iconst dX12_areTied_41 3 ki_3 ?_
                                          refine kv_icmp_ge dX12_areTied_42 97 (by decide) (fun h67 => ?_) (fun h67 => ?_)
                                          · refine kv_iload_n dX12_areTied_97 rfl ?_
                                            refine kv_if_ne dX12_areTied_98 114 (by decide) (fun h68 => ?_) (fun h68 => ?_)
                                            · refine kv_iconst dX12_areTied_114 1 ki_1 ?_
                                              refine kv_goto dX12_areTied_115 119 (by decide) ?_
                                              refine kv_istore_n (ls2 := [_, _, _, _, _, _, _, _, _]) dX12_areTied_119 rfl rfl rfl rfl ?_
                                              refine kv_iinc (ls2 := [_, _, _, _, _, _, _, _, _]) dX12_areTied_120 (4 : Int32) rfl rfl rfl rfl rfl rfl ?_
                                              refine kv_goto dX12_areTied_123 5 (by decide) ?_
                                              refine kv_iload dX12_areTied_5 rfl ?_
                                              refine kv_iconst dX12_areTied_7 4 ki_4 ?_
                                              refine kv_icmp_ge dX12_areTied_8 126 (by decide) (fun h69 => ?_) (fun h69 => ?_)
                                              · refine kv_iload_n dX12_areTied_126 rfl ?_
                                                exact kv_zret dX12_areTied_127 rfl kv_z1 (by first | exact ⟨by rw [if_pos H], rfl⟩ | exact ⟨by rw [if_neg (by rintro ((q | q) | (q | q) | (q | q) | (q | q)) <;> contradiction)], rfl⟩)
                                              · exact absurd h69 (by decide)
                                            · exact absurd h68 (by decide)
                                          · exact absurd (Int32.le_refl (nI 3)) h67
                                        · have e1 : kAlA g (kCarOf g a 1) (kCarOf g b 1) (m + 1) = kAlA g (kCarOf g a 1) (kCarOf g b 1) m + (if ¬ g (40 + 8 * (kCarOf g a 1) + (5 + m)) < 0 ∧ g (40 + 8 * (kCarOf g a 1) + (5 + m)) = g (40 + 8 * (kCarOf g b 1) + (5 + m)) then 1 else 0) := rfl
                                          refine kv_iload dX12_areTied_39 rfl ?_
                                          refine kv_iconst dX12_areTied_41 3 ki_3 ?_
                                          refine kv_icmp_ge dX12_areTied_42 97 (by decide) (fun h70 => ?_) (fun h70 => ?_)
                                          · exact absurd h70 (kn_ge (n := 3) hm (by omega))
                                          · refine kv_iload dX12_areTied_45 rfl ?_
                                            refine kv_aload_n dX12_areTied_47 rfl ?_
                                            refine kv_iload dX12_areTied_48 rfl ?_
                                            refine kv_iconst dX12_areTied_50 5 ki_5 ?_
                                            refine kv_iload dX12_areTied_51 rfl ?_
                                            refine kv_iadd dX12_areTied_53 ?_
                                            rw [show (5 + nI m : Int32) = nI (5 + m) from kn_add (show (5 : Int32) = nI 5 from rfl) rfl]
                                            refine kw_Vi [_, _] mX12_car dX12_areTied_54 lX12_89 wX12_car kC12 hu rfl (by first | rfl | assumption) rfl rfl rfl (by first | exact gX12_car hu eg (kCarOf g a 0) (5 + m) (by omega) (by omega) | exact gX12_car hu eg (kCarOf g a 1) (5 + m) (by omega) (by omega) ) (by decide) ?_
                                            refine kv_if_lt dX12_areTied_57 87 (by decide) (fun h71 => ?_) (fun h71 => ?_)
                                            · have hq : ¬ (¬ g (40 + 8 * (kCarOf g a 1) + (5 + m)) < 0 ∧ g (40 + 8 * (kCarOf g a 1) + (5 + m)) = g (40 + 8 * (kCarOf g b 1) + (5 + m))) := fun q => q.1 h71
                                              refine kv_iconst dX12_areTied_87 0 ki_0 ?_
                                              refine kv_iadd dX12_areTied_88 ?_
                                              refine kv_istore (ls2 := [_, _, _, _, _, _, _, _, _]) dX12_areTied_89 rfl rfl rfl rfl ?_
                                              refine kv_iinc (ls2 := [_, _, _, _, _, _, _, _, _]) dX12_areTied_91 (nI (m + 1)) rfl (kv_inc1 m) rfl rfl rfl rfl ?_
                                              refine kv_goto dX12_areTied_94 39 (by decide) ?_
                                              exact KV.loc ih (ksS (by first | rfl | exact congrArg (fun z => some (Value.int z)) ((kn_add rfl (show (1 : Int32) = nI 1 from rfl)).trans (congrArg nI (by rw [e1, if_pos hq]))) | exact congrArg (fun z => some (Value.int z)) ((kn_add rfl (show (0 : Int32) = nI 0 from rfl)).trans (congrArg nI (by rw [e1, if_neg hq])))) (ksS (by first | rfl | exact congrArg (fun z => some (Value.int z)) ((kn_add rfl (show (1 : Int32) = nI 1 from rfl)).trans (congrArg nI (by rw [e1, if_pos hq]))) | exact congrArg (fun z => some (Value.int z)) ((kn_add rfl (show (0 : Int32) = nI 0 from rfl)).trans (congrArg nI (by rw [e1, if_neg hq])))) (ksS (by first | rfl | exact congrArg (fun z => some (Value.int z)) ((kn_add rfl (show (1 : Int32) = nI 1 from rfl)).trans (congrArg nI (by rw [e1, if_pos hq]))) | exact congrArg (fun z => some (Value.int z)) ((kn_add rfl (show (0 : Int32) = nI 0 from rfl)).trans (congrArg nI (by rw [e1, if_neg hq])))) (ksS (by first | rfl | exact congrArg (fun z => some (Value.int z)) ((kn_add rfl (show (1 : Int32) = nI 1 from rfl)).trans (congrArg nI (by rw [e1, if_pos hq]))) | exact congrArg (fun z => some (Value.int z)) ((kn_add rfl (show (0 : Int32) = nI 0 from rfl)).trans (congrArg nI (by rw [e1, if_neg hq])))) (ksS (by first | rfl | exact congrArg (fun z => some (Value.int z)) ((kn_add rfl (show (1 : Int32) = nI 1 from rfl)).trans (congrArg nI (by rw [e1, if_pos hq]))) | exact congrArg (fun z => some (Value.int z)) ((kn_add rfl (show (0 : Int32) = nI 0 from rfl)).trans (congrArg nI (by rw [e1, if_neg hq])))) (ksS (by first | rfl | exact congrArg (fun z => some (Value.int z)) ((kn_add rfl (show (1 : Int32) = nI 1 from rfl)).trans (congrArg nI (by rw [e1, if_pos hq]))) | exact congrArg (fun z => some (Value.int z)) ((kn_add rfl (show (0 : Int32) = nI 0 from rfl)).trans (congrArg nI (by rw [e1, if_neg hq])))) (ksS (by first | rfl | exact congrArg (fun z => some (Value.int z)) ((kn_add rfl (show (1 : Int32) = nI 1 from rfl)).trans (congrArg nI (by rw [e1, if_pos hq]))) | exact congrArg (fun z => some (Value.int z)) ((kn_add rfl (show (0 : Int32) = nI 0 from rfl)).trans (congrArg nI (by rw [e1, if_neg hq])))) (ksS (by first | rfl | exact congrArg (fun z => some (Value.int z)) ((kn_add rfl (show (1 : Int32) = nI 1 from rfl)).trans (congrArg nI (by rw [e1, if_pos hq]))) | exact congrArg (fun z => some (Value.int z)) ((kn_add rfl (show (0 : Int32) = nI 0 from rfl)).trans (congrArg nI (by rw [e1, if_neg hq])))) (ksS (by first | rfl | exact congrArg (fun z => some (Value.int z)) ((kn_add rfl (show (1 : Int32) = nI 1 from rfl)).trans (congrArg nI (by rw [e1, if_pos hq]))) | exact congrArg (fun z => some (Value.int z)) ((kn_add rfl (show (0 : Int32) = nI 0 from rfl)).trans (congrArg nI (by rw [e1, if_neg hq])))) ksN)))))))))
                                            · have h0 := h71
                                              refine kv_aload_n dX12_areTied_60 rfl ?_
                                              refine kv_iload dX12_areTied_61 rfl ?_
                                              refine kv_iconst dX12_areTied_63 5 ki_5 ?_
                                              refine kv_iload dX12_areTied_64 rfl ?_
                                              refine kv_iadd dX12_areTied_66 ?_
                                              rw [show (5 + nI m : Int32) = nI (5 + m) from kn_add (show (5 : Int32) = nI 5 from rfl) rfl]
                                              refine kw_Vi [_, _] mX12_car dX12_areTied_67 lX12_89 wX12_car kC12 hu rfl (by first | rfl | assumption) rfl rfl rfl (by first | exact gX12_car hu eg (kCarOf g a 0) (5 + m) (by omega) (by omega) | exact gX12_car hu eg (kCarOf g a 1) (5 + m) (by omega) (by omega) ) (by decide) ?_
                                              refine kv_aload_n dX12_areTied_70 rfl ?_
                                              refine kv_iload dX12_areTied_71 rfl ?_
                                              refine kv_iconst dX12_areTied_73 5 ki_5 ?_
                                              refine kv_iload dX12_areTied_74 rfl ?_
                                              refine kv_iadd dX12_areTied_76 ?_
                                              rw [show (5 + nI m : Int32) = nI (5 + m) from kn_add (show (5 : Int32) = nI 5 from rfl) rfl]
                                              refine kw_Vi [_, _] mX12_car dX12_areTied_77 lX12_89 wX12_car kC12 hu rfl (by first | rfl | assumption) rfl rfl rfl (by first | exact gX12_car hu eg (kCarOf g b 0) (5 + m) (by omega) (by omega) | exact gX12_car hu eg (kCarOf g b 1) (5 + m) (by omega) (by omega) ) (by decide) ?_
                                              refine kv_icmp_ne dX12_areTied_80 87 (by decide) (fun h72 => ?_) (fun h72 => ?_)
                                              · have hq : ¬ (¬ g (40 + 8 * (kCarOf g a 1) + (5 + m)) < 0 ∧ g (40 + 8 * (kCarOf g a 1) + (5 + m)) = g (40 + 8 * (kCarOf g b 1) + (5 + m))) := fun q => h72 q.2
                                                refine kv_iconst dX12_areTied_87 0 ki_0 ?_
                                                refine kv_iadd dX12_areTied_88 ?_
                                                refine kv_istore (ls2 := [_, _, _, _, _, _, _, _, _]) dX12_areTied_89 rfl rfl rfl rfl ?_
                                                refine kv_iinc (ls2 := [_, _, _, _, _, _, _, _, _]) dX12_areTied_91 (nI (m + 1)) rfl (kv_inc1 m) rfl rfl rfl rfl ?_
                                                refine kv_goto dX12_areTied_94 39 (by decide) ?_
                                                exact KV.loc ih (ksS (by first | rfl | exact congrArg (fun z => some (Value.int z)) ((kn_add rfl (show (1 : Int32) = nI 1 from rfl)).trans (congrArg nI (by rw [e1, if_pos hq]))) | exact congrArg (fun z => some (Value.int z)) ((kn_add rfl (show (0 : Int32) = nI 0 from rfl)).trans (congrArg nI (by rw [e1, if_neg hq])))) (ksS (by first | rfl | exact congrArg (fun z => some (Value.int z)) ((kn_add rfl (show (1 : Int32) = nI 1 from rfl)).trans (congrArg nI (by rw [e1, if_pos hq]))) | exact congrArg (fun z => some (Value.int z)) ((kn_add rfl (show (0 : Int32) = nI 0 from rfl)).trans (congrArg nI (by rw [e1, if_neg hq])))) (ksS (by first | rfl | exact congrArg (fun z => some (Value.int z)) ((kn_add rfl (show (1 : Int32) = nI 1 from rfl)).trans (congrArg nI (by rw [e1, if_pos hq]))) | exact congrArg (fun z => some (Value.int z)) ((kn_add rfl (show (0 : Int32) = nI 0 from rfl)).trans (congrArg nI (by rw [e1, if_neg hq])))) (ksS (by first | rfl | exact congrArg (fun z => some (Value.int z)) ((kn_add rfl (show (1 : Int32) = nI 1 from rfl)).trans (congrArg nI (by rw [e1, if_pos hq]))) | exact congrArg (fun z => some (Value.int z)) ((kn_add rfl (show (0 : Int32) = nI 0 from rfl)).trans (congrArg nI (by rw [e1, if_neg hq])))) (ksS (by first | rfl | exact congrArg (fun z => some (Value.int z)) ((kn_add rfl (show (1 : Int32) = nI 1 from rfl)).trans (congrArg nI (by rw [e1, if_pos hq]))) | exact congrArg (fun z => some (Value.int z)) ((kn_add rfl (show (0 : Int32) = nI 0 from rfl)).trans (congrArg nI (by rw [e1, if_neg hq])))) (ksS (by first | rfl | exact congrArg (fun z => some (Value.int z)) ((kn_add rfl (show (1 : Int32) = nI 1 from rfl)).trans (congrArg nI (by rw [e1, if_pos hq]))) | exact congrArg (fun z => some (Value.int z)) ((kn_add rfl (show (0 : Int32) = nI 0 from rfl)).trans (congrArg nI (by rw [e1, if_neg hq])))) (ksS (by first | rfl | exact congrArg (fun z => some (Value.int z)) ((kn_add rfl (show (1 : Int32) = nI 1 from rfl)).trans (congrArg nI (by rw [e1, if_pos hq]))) | exact congrArg (fun z => some (Value.int z)) ((kn_add rfl (show (0 : Int32) = nI 0 from rfl)).trans (congrArg nI (by rw [e1, if_neg hq])))) (ksS (by first | rfl | exact congrArg (fun z => some (Value.int z)) ((kn_add rfl (show (1 : Int32) = nI 1 from rfl)).trans (congrArg nI (by rw [e1, if_pos hq]))) | exact congrArg (fun z => some (Value.int z)) ((kn_add rfl (show (0 : Int32) = nI 0 from rfl)).trans (congrArg nI (by rw [e1, if_neg hq])))) (ksS (by first | rfl | exact congrArg (fun z => some (Value.int z)) ((kn_add rfl (show (1 : Int32) = nI 1 from rfl)).trans (congrArg nI (by rw [e1, if_pos hq]))) | exact congrArg (fun z => some (Value.int z)) ((kn_add rfl (show (0 : Int32) = nI 0 from rfl)).trans (congrArg nI (by rw [e1, if_neg hq])))) ksN)))))))))
                                              · have hq : ¬ g (40 + 8 * (kCarOf g a 1) + (5 + m)) < 0 ∧ g (40 + 8 * (kCarOf g a 1) + (5 + m)) = g (40 + 8 * (kCarOf g b 1) + (5 + m)) := ⟨h0, h72⟩
                                                refine kv_iconst dX12_areTied_83 1 ki_1 ?_
                                                refine kv_goto dX12_areTied_84 88 (by decide) ?_
                                                refine kv_iadd dX12_areTied_88 ?_
                                                refine kv_istore (ls2 := [_, _, _, _, _, _, _, _, _]) dX12_areTied_89 rfl rfl rfl rfl ?_
                                                refine kv_iinc (ls2 := [_, _, _, _, _, _, _, _, _]) dX12_areTied_91 (nI (m + 1)) rfl (kv_inc1 m) rfl rfl rfl rfl ?_
                                                refine kv_goto dX12_areTied_94 39 (by decide) ?_
                                                exact KV.loc ih (ksS (by first | rfl | exact congrArg (fun z => some (Value.int z)) ((kn_add rfl (show (1 : Int32) = nI 1 from rfl)).trans (congrArg nI (by rw [e1, if_pos hq]))) | exact congrArg (fun z => some (Value.int z)) ((kn_add rfl (show (0 : Int32) = nI 0 from rfl)).trans (congrArg nI (by rw [e1, if_neg hq])))) (ksS (by first | rfl | exact congrArg (fun z => some (Value.int z)) ((kn_add rfl (show (1 : Int32) = nI 1 from rfl)).trans (congrArg nI (by rw [e1, if_pos hq]))) | exact congrArg (fun z => some (Value.int z)) ((kn_add rfl (show (0 : Int32) = nI 0 from rfl)).trans (congrArg nI (by rw [e1, if_neg hq])))) (ksS (by first | rfl | exact congrArg (fun z => some (Value.int z)) ((kn_add rfl (show (1 : Int32) = nI 1 from rfl)).trans (congrArg nI (by rw [e1, if_pos hq]))) | exact congrArg (fun z => some (Value.int z)) ((kn_add rfl (show (0 : Int32) = nI 0 from rfl)).trans (congrArg nI (by rw [e1, if_neg hq])))) (ksS (by first | rfl | exact congrArg (fun z => some (Value.int z)) ((kn_add rfl (show (1 : Int32) = nI 1 from rfl)).trans (congrArg nI (by rw [e1, if_pos hq]))) | exact congrArg (fun z => some (Value.int z)) ((kn_add rfl (show (0 : Int32) = nI 0 from rfl)).trans (congrArg nI (by rw [e1, if_neg hq])))) (ksS (by first | rfl | exact congrArg (fun z => some (Value.int z)) ((kn_add rfl (show (1 : Int32) = nI 1 from rfl)).trans (congrArg nI (by rw [e1, if_pos hq]))) | exact congrArg (fun z => some (Value.int z)) ((kn_add rfl (show (0 : Int32) = nI 0 from rfl)).trans (congrArg nI (by rw [e1, if_neg hq])))) (ksS (by first | rfl | exact congrArg (fun z => some (Value.int z)) ((kn_add rfl (show (1 : Int32) = nI 1 from rfl)).trans (congrArg nI (by rw [e1, if_pos hq]))) | exact congrArg (fun z => some (Value.int z)) ((kn_add rfl (show (0 : Int32) = nI 0 from rfl)).trans (congrArg nI (by rw [e1, if_neg hq])))) (ksS (by first | rfl | exact congrArg (fun z => some (Value.int z)) ((kn_add rfl (show (1 : Int32) = nI 1 from rfl)).trans (congrArg nI (by rw [e1, if_pos hq]))) | exact congrArg (fun z => some (Value.int z)) ((kn_add rfl (show (0 : Int32) = nI 0 from rfl)).trans (congrArg nI (by rw [e1, if_neg hq])))) (ksS (by first | rfl | exact congrArg (fun z => some (Value.int z)) ((kn_add rfl (show (1 : Int32) = nI 1 from rfl)).trans (congrArg nI (by rw [e1, if_pos hq]))) | exact congrArg (fun z => some (Value.int z)) ((kn_add rfl (show (0 : Int32) = nI 0 from rfl)).trans (congrArg nI (by rw [e1, if_neg hq])))) (ksS (by first | rfl | exact congrArg (fun z => some (Value.int z)) ((kn_add rfl (show (1 : Int32) = nI 1 from rfl)).trans (congrArg nI (by rw [e1, if_pos hq]))) | exact congrArg (fun z => some (Value.int z)) ((kn_add rfl (show (0 : Int32) = nI 0 from rfl)).trans (congrArg nI (by rw [e1, if_neg hq])))) ksN)))))))))
                              · exact absurd (Int32.le_refl (nI 3)) h44
                            · have e1 : kAlA g (kCarOf g a 1) (kCarOf g b 0) (m + 1) = kAlA g (kCarOf g a 1) (kCarOf g b 0) m + (if ¬ g (40 + 8 * (kCarOf g a 1) + (5 + m)) < 0 ∧ g (40 + 8 * (kCarOf g a 1) + (5 + m)) = g (40 + 8 * (kCarOf g b 0) + (5 + m)) then 1 else 0) := rfl
                              refine kv_iload dX12_areTied_39 rfl ?_
                              refine kv_iconst dX12_areTied_41 3 ki_3 ?_
                              refine kv_icmp_ge dX12_areTied_42 97 (by decide) (fun h73 => ?_) (fun h73 => ?_)
                              · exact absurd h73 (kn_ge (n := 3) hm (by omega))
                              · refine kv_iload dX12_areTied_45 rfl ?_
                                refine kv_aload_n dX12_areTied_47 rfl ?_
                                refine kv_iload dX12_areTied_48 rfl ?_
                                refine kv_iconst dX12_areTied_50 5 ki_5 ?_
                                refine kv_iload dX12_areTied_51 rfl ?_
                                refine kv_iadd dX12_areTied_53 ?_
                                rw [show (5 + nI m : Int32) = nI (5 + m) from kn_add (show (5 : Int32) = nI 5 from rfl) rfl]
                                refine kw_Vi [_, _] mX12_car dX12_areTied_54 lX12_89 wX12_car kC12 hu rfl (by first | rfl | assumption) rfl rfl rfl (by first | exact gX12_car hu eg (kCarOf g a 0) (5 + m) (by omega) (by omega) | exact gX12_car hu eg (kCarOf g a 1) (5 + m) (by omega) (by omega) ) (by decide) ?_
                                refine kv_if_lt dX12_areTied_57 87 (by decide) (fun h74 => ?_) (fun h74 => ?_)
                                · have hq : ¬ (¬ g (40 + 8 * (kCarOf g a 1) + (5 + m)) < 0 ∧ g (40 + 8 * (kCarOf g a 1) + (5 + m)) = g (40 + 8 * (kCarOf g b 0) + (5 + m))) := fun q => q.1 h74
                                  refine kv_iconst dX12_areTied_87 0 ki_0 ?_
                                  refine kv_iadd dX12_areTied_88 ?_
                                  refine kv_istore (ls2 := [_, _, _, _, _, _, _, _, _]) dX12_areTied_89 rfl rfl rfl rfl ?_
                                  refine kv_iinc (ls2 := [_, _, _, _, _, _, _, _, _]) dX12_areTied_91 (nI (m + 1)) rfl (kv_inc1 m) rfl rfl rfl rfl ?_
                                  refine kv_goto dX12_areTied_94 39 (by decide) ?_
                                  exact KV.loc ih (ksS (by first | rfl | exact congrArg (fun z => some (Value.int z)) ((kn_add rfl (show (1 : Int32) = nI 1 from rfl)).trans (congrArg nI (by rw [e1, if_pos hq]))) | exact congrArg (fun z => some (Value.int z)) ((kn_add rfl (show (0 : Int32) = nI 0 from rfl)).trans (congrArg nI (by rw [e1, if_neg hq])))) (ksS (by first | rfl | exact congrArg (fun z => some (Value.int z)) ((kn_add rfl (show (1 : Int32) = nI 1 from rfl)).trans (congrArg nI (by rw [e1, if_pos hq]))) | exact congrArg (fun z => some (Value.int z)) ((kn_add rfl (show (0 : Int32) = nI 0 from rfl)).trans (congrArg nI (by rw [e1, if_neg hq])))) (ksS (by first | rfl | exact congrArg (fun z => some (Value.int z)) ((kn_add rfl (show (1 : Int32) = nI 1 from rfl)).trans (congrArg nI (by rw [e1, if_pos hq]))) | exact congrArg (fun z => some (Value.int z)) ((kn_add rfl (show (0 : Int32) = nI 0 from rfl)).trans (congrArg nI (by rw [e1, if_neg hq])))) (ksS (by first | rfl | exact congrArg (fun z => some (Value.int z)) ((kn_add rfl (show (1 : Int32) = nI 1 from rfl)).trans (congrArg nI (by rw [e1, if_pos hq]))) | exact congrArg (fun z => some (Value.int z)) ((kn_add rfl (show (0 : Int32) = nI 0 from rfl)).trans (congrArg nI (by rw [e1, if_neg hq])))) (ksS (by first | rfl | exact congrArg (fun z => some (Value.int z)) ((kn_add rfl (show (1 : Int32) = nI 1 from rfl)).trans (congrArg nI (by rw [e1, if_pos hq]))) | exact congrArg (fun z => some (Value.int z)) ((kn_add rfl (show (0 : Int32) = nI 0 from rfl)).trans (congrArg nI (by rw [e1, if_neg hq])))) (ksS (by first | rfl | exact congrArg (fun z => some (Value.int z)) ((kn_add rfl (show (1 : Int32) = nI 1 from rfl)).trans (congrArg nI (by rw [e1, if_pos hq]))) | exact congrArg (fun z => some (Value.int z)) ((kn_add rfl (show (0 : Int32) = nI 0 from rfl)).trans (congrArg nI (by rw [e1, if_neg hq])))) (ksS (by first | rfl | exact congrArg (fun z => some (Value.int z)) ((kn_add rfl (show (1 : Int32) = nI 1 from rfl)).trans (congrArg nI (by rw [e1, if_pos hq]))) | exact congrArg (fun z => some (Value.int z)) ((kn_add rfl (show (0 : Int32) = nI 0 from rfl)).trans (congrArg nI (by rw [e1, if_neg hq])))) (ksS (by first | rfl | exact congrArg (fun z => some (Value.int z)) ((kn_add rfl (show (1 : Int32) = nI 1 from rfl)).trans (congrArg nI (by rw [e1, if_pos hq]))) | exact congrArg (fun z => some (Value.int z)) ((kn_add rfl (show (0 : Int32) = nI 0 from rfl)).trans (congrArg nI (by rw [e1, if_neg hq])))) (ksS (by first | rfl | exact congrArg (fun z => some (Value.int z)) ((kn_add rfl (show (1 : Int32) = nI 1 from rfl)).trans (congrArg nI (by rw [e1, if_pos hq]))) | exact congrArg (fun z => some (Value.int z)) ((kn_add rfl (show (0 : Int32) = nI 0 from rfl)).trans (congrArg nI (by rw [e1, if_neg hq])))) ksN)))))))))
                                · have h0 := h74
                                  refine kv_aload_n dX12_areTied_60 rfl ?_
                                  refine kv_iload dX12_areTied_61 rfl ?_
                                  refine kv_iconst dX12_areTied_63 5 ki_5 ?_
                                  refine kv_iload dX12_areTied_64 rfl ?_
                                  refine kv_iadd dX12_areTied_66 ?_
                                  rw [show (5 + nI m : Int32) = nI (5 + m) from kn_add (show (5 : Int32) = nI 5 from rfl) rfl]
                                  refine kw_Vi [_, _] mX12_car dX12_areTied_67 lX12_89 wX12_car kC12 hu rfl (by first | rfl | assumption) rfl rfl rfl (by first | exact gX12_car hu eg (kCarOf g a 0) (5 + m) (by omega) (by omega) | exact gX12_car hu eg (kCarOf g a 1) (5 + m) (by omega) (by omega) ) (by decide) ?_
                                  refine kv_aload_n dX12_areTied_70 rfl ?_
                                  refine kv_iload dX12_areTied_71 rfl ?_
                                  refine kv_iconst dX12_areTied_73 5 ki_5 ?_
                                  refine kv_iload dX12_areTied_74 rfl ?_
                                  refine kv_iadd dX12_areTied_76 ?_
                                  rw [show (5 + nI m : Int32) = nI (5 + m) from kn_add (show (5 : Int32) = nI 5 from rfl) rfl]
                                  refine kw_Vi [_, _] mX12_car dX12_areTied_77 lX12_89 wX12_car kC12 hu rfl (by first | rfl | assumption) rfl rfl rfl (by first | exact gX12_car hu eg (kCarOf g b 0) (5 + m) (by omega) (by omega) | exact gX12_car hu eg (kCarOf g b 1) (5 + m) (by omega) (by omega) ) (by decide) ?_
                                  refine kv_icmp_ne dX12_areTied_80 87 (by decide) (fun h75 => ?_) (fun h75 => ?_)
                                  · have hq : ¬ (¬ g (40 + 8 * (kCarOf g a 1) + (5 + m)) < 0 ∧ g (40 + 8 * (kCarOf g a 1) + (5 + m)) = g (40 + 8 * (kCarOf g b 0) + (5 + m))) := fun q => h75 q.2
                                    refine kv_iconst dX12_areTied_87 0 ki_0 ?_
                                    refine kv_iadd dX12_areTied_88 ?_
                                    refine kv_istore (ls2 := [_, _, _, _, _, _, _, _, _]) dX12_areTied_89 rfl rfl rfl rfl ?_
                                    refine kv_iinc (ls2 := [_, _, _, _, _, _, _, _, _]) dX12_areTied_91 (nI (m + 1)) rfl (kv_inc1 m) rfl rfl rfl rfl ?_
                                    refine kv_goto dX12_areTied_94 39 (by decide) ?_
                                    exact KV.loc ih (ksS (by first | rfl | exact congrArg (fun z => some (Value.int z)) ((kn_add rfl (show (1 : Int32) = nI 1 from rfl)).trans (congrArg nI (by rw [e1, if_pos hq]))) | exact congrArg (fun z => some (Value.int z)) ((kn_add rfl (show (0 : Int32) = nI 0 from rfl)).trans (congrArg nI (by rw [e1, if_neg hq])))) (ksS (by first | rfl | exact congrArg (fun z => some (Value.int z)) ((kn_add rfl (show (1 : Int32) = nI 1 from rfl)).trans (congrArg nI (by rw [e1, if_pos hq]))) | exact congrArg (fun z => some (Value.int z)) ((kn_add rfl (show (0 : Int32) = nI 0 from rfl)).trans (congrArg nI (by rw [e1, if_neg hq])))) (ksS (by first | rfl | exact congrArg (fun z => some (Value.int z)) ((kn_add rfl (show (1 : Int32) = nI 1 from rfl)).trans (congrArg nI (by rw [e1, if_pos hq]))) | exact congrArg (fun z => some (Value.int z)) ((kn_add rfl (show (0 : Int32) = nI 0 from rfl)).trans (congrArg nI (by rw [e1, if_neg hq])))) (ksS (by first | rfl | exact congrArg (fun z => some (Value.int z)) ((kn_add rfl (show (1 : Int32) = nI 1 from rfl)).trans (congrArg nI (by rw [e1, if_pos hq]))) | exact congrArg (fun z => some (Value.int z)) ((kn_add rfl (show (0 : Int32) = nI 0 from rfl)).trans (congrArg nI (by rw [e1, if_neg hq])))) (ksS (by first | rfl | exact congrArg (fun z => some (Value.int z)) ((kn_add rfl (show (1 : Int32) = nI 1 from rfl)).trans (congrArg nI (by rw [e1, if_pos hq]))) | exact congrArg (fun z => some (Value.int z)) ((kn_add rfl (show (0 : Int32) = nI 0 from rfl)).trans (congrArg nI (by rw [e1, if_neg hq])))) (ksS (by first | rfl | exact congrArg (fun z => some (Value.int z)) ((kn_add rfl (show (1 : Int32) = nI 1 from rfl)).trans (congrArg nI (by rw [e1, if_pos hq]))) | exact congrArg (fun z => some (Value.int z)) ((kn_add rfl (show (0 : Int32) = nI 0 from rfl)).trans (congrArg nI (by rw [e1, if_neg hq])))) (ksS (by first | rfl | exact congrArg (fun z => some (Value.int z)) ((kn_add rfl (show (1 : Int32) = nI 1 from rfl)).trans (congrArg nI (by rw [e1, if_pos hq]))) | exact congrArg (fun z => some (Value.int z)) ((kn_add rfl (show (0 : Int32) = nI 0 from rfl)).trans (congrArg nI (by rw [e1, if_neg hq])))) (ksS (by first | rfl | exact congrArg (fun z => some (Value.int z)) ((kn_add rfl (show (1 : Int32) = nI 1 from rfl)).trans (congrArg nI (by rw [e1, if_pos hq]))) | exact congrArg (fun z => some (Value.int z)) ((kn_add rfl (show (0 : Int32) = nI 0 from rfl)).trans (congrArg nI (by rw [e1, if_neg hq])))) (ksS (by first | rfl | exact congrArg (fun z => some (Value.int z)) ((kn_add rfl (show (1 : Int32) = nI 1 from rfl)).trans (congrArg nI (by rw [e1, if_pos hq]))) | exact congrArg (fun z => some (Value.int z)) ((kn_add rfl (show (0 : Int32) = nI 0 from rfl)).trans (congrArg nI (by rw [e1, if_neg hq])))) ksN)))))))))
                                  · have hq : ¬ g (40 + 8 * (kCarOf g a 1) + (5 + m)) < 0 ∧ g (40 + 8 * (kCarOf g a 1) + (5 + m)) = g (40 + 8 * (kCarOf g b 0) + (5 + m)) := ⟨h0, h75⟩
                                    refine kv_iconst dX12_areTied_83 1 ki_1 ?_
                                    refine kv_goto dX12_areTied_84 88 (by decide) ?_
                                    refine kv_iadd dX12_areTied_88 ?_
                                    refine kv_istore (ls2 := [_, _, _, _, _, _, _, _, _]) dX12_areTied_89 rfl rfl rfl rfl ?_
                                    refine kv_iinc (ls2 := [_, _, _, _, _, _, _, _, _]) dX12_areTied_91 (nI (m + 1)) rfl (kv_inc1 m) rfl rfl rfl rfl ?_
                                    refine kv_goto dX12_areTied_94 39 (by decide) ?_
                                    exact KV.loc ih (ksS (by first | rfl | exact congrArg (fun z => some (Value.int z)) ((kn_add rfl (show (1 : Int32) = nI 1 from rfl)).trans (congrArg nI (by rw [e1, if_pos hq]))) | exact congrArg (fun z => some (Value.int z)) ((kn_add rfl (show (0 : Int32) = nI 0 from rfl)).trans (congrArg nI (by rw [e1, if_neg hq])))) (ksS (by first | rfl | exact congrArg (fun z => some (Value.int z)) ((kn_add rfl (show (1 : Int32) = nI 1 from rfl)).trans (congrArg nI (by rw [e1, if_pos hq]))) | exact congrArg (fun z => some (Value.int z)) ((kn_add rfl (show (0 : Int32) = nI 0 from rfl)).trans (congrArg nI (by rw [e1, if_neg hq])))) (ksS (by first | rfl | exact congrArg (fun z => some (Value.int z)) ((kn_add rfl (show (1 : Int32) = nI 1 from rfl)).trans (congrArg nI (by rw [e1, if_pos hq]))) | exact congrArg (fun z => some (Value.int z)) ((kn_add rfl (show (0 : Int32) = nI 0 from rfl)).trans (congrArg nI (by rw [e1, if_neg hq])))) (ksS (by first | rfl | exact congrArg (fun z => some (Value.int z)) ((kn_add rfl (show (1 : Int32) = nI 1 from rfl)).trans (congrArg nI (by rw [e1, if_pos hq]))) | exact congrArg (fun z => some (Value.int z)) ((kn_add rfl (show (0 : Int32) = nI 0 from rfl)).trans (congrArg nI (by rw [e1, if_neg hq])))) (ksS (by first | rfl | exact congrArg (fun z => some (Value.int z)) ((kn_add rfl (show (1 : Int32) = nI 1 from rfl)).trans (congrArg nI (by rw [e1, if_pos hq]))) | exact congrArg (fun z => some (Value.int z)) ((kn_add rfl (show (0 : Int32) = nI 0 from rfl)).trans (congrArg nI (by rw [e1, if_neg hq])))) (ksS (by first | rfl | exact congrArg (fun z => some (Value.int z)) ((kn_add rfl (show (1 : Int32) = nI 1 from rfl)).trans (congrArg nI (by rw [e1, if_pos hq]))) | exact congrArg (fun z => some (Value.int z)) ((kn_add rfl (show (0 : Int32) = nI 0 from rfl)).trans (congrArg nI (by rw [e1, if_neg hq])))) (ksS (by first | rfl | exact congrArg (fun z => some (Value.int z)) ((kn_add rfl (show (1 : Int32) = nI 1 from rfl)).trans (congrArg nI (by rw [e1, if_pos hq]))) | exact congrArg (fun z => some (Value.int z)) ((kn_add rfl (show (0 : Int32) = nI 0 from rfl)).trans (congrArg nI (by rw [e1, if_neg hq])))) (ksS (by first | rfl | exact congrArg (fun z => some (Value.int z)) ((kn_add rfl (show (1 : Int32) = nI 1 from rfl)).trans (congrArg nI (by rw [e1, if_pos hq]))) | exact congrArg (fun z => some (Value.int z)) ((kn_add rfl (show (0 : Int32) = nI 0 from rfl)).trans (congrArg nI (by rw [e1, if_neg hq])))) (ksS (by first | rfl | exact congrArg (fun z => some (Value.int z)) ((kn_add rfl (show (1 : Int32) = nI 1 from rfl)).trans (congrArg nI (by rw [e1, if_pos hq]))) | exact congrArg (fun z => some (Value.int z)) ((kn_add rfl (show (0 : Int32) = nI 0 from rfl)).trans (congrArg nI (by rw [e1, if_neg hq])))) ksN)))))))))
                        · have E2 : 2 ≤ kAlA g (kCarOf g a 0) (kCarOf g b 1) 3 := Nat.lt_of_not_le (fun q => h42 (nI_le (b := 1) q (by omega)))
                          have H : kTie g a b := by
                            first
                            | exact Or.inl (Or.inr E2)
                            | exact Or.inr (Or.inl (Or.inr E2))
                            | exact Or.inr (Or.inr (Or.inl (Or.inr E2)))
                            | exact Or.inr (Or.inr (Or.inr (Or.inr E2)))
                          refine kv_iconst dX12_areTied_114 1 ki_1 ?_
                          refine kv_goto dX12_areTied_115 119 (by decide) ?_
                          refine kv_istore_n (ls2 := [_, _, _, _, _, _, _, _, _]) dX12_areTied_119 rfl rfl rfl rfl ?_
                          refine kv_iinc (ls2 := [_, _, _, _, _, _, _, _, _]) dX12_areTied_120 (2 : Int32) rfl rfl rfl rfl rfl rfl ?_
                          refine kv_goto dX12_areTied_123 5 (by decide) ?_
                          refine kv_iload dX12_areTied_5 rfl ?_
                          refine kv_iconst dX12_areTied_7 4 ki_4 ?_
                          refine kv_icmp_ge dX12_areTied_8 126 (by decide) (fun h76 => ?_) (fun h76 => ?_)
                          · exact absurd h76 (by decide)
                          · refine kv_aload_n dX12_areTied_11 rfl ?_
                            refine kv_iload_n dX12_areTied_12 rfl ?_
                            refine kv_iload dX12_areTied_13 rfl ?_
                            refine kv_iconst dX12_areTied_15 2 ki_2 ?_
                            refine kv_idiv dX12_areTied_16 (by decide) ?_
                            rw [show ((2 : Int32) / 2) = 1 from rfl]
                            refine kw_Vi [_, _] mX12_carOf dX12_areTied_17 lX12_116 wX12_carOf kC12 hu rfl (by first | rfl | assumption) rfl rfl rfl (gX12_carOf hu eg a 1 (by omega) (by omega)) (by decide) ?_
                            first | rw [ca0.1] | rw [ca1.1]
                            refine kv_istore (ls2 := [_, _, _, _, _, _, _, _, _]) dX12_areTied_20 rfl rfl rfl rfl ?_
                            refine kv_aload_n dX12_areTied_22 rfl ?_
                            refine kv_iload_n dX12_areTied_23 rfl ?_
                            refine kv_iload dX12_areTied_24 rfl ?_
                            refine kv_iconst dX12_areTied_26 2 ki_2 ?_
                            refine kv_irem dX12_areTied_27 (by decide) ?_
                            rw [show ((2 : Int32) - 2 / 2 * 2) = 0 from rfl]
                            refine kw_Vi [_, _] mX12_carOf dX12_areTied_28 lX12_116 wX12_carOf kC12 hu rfl (by first | rfl | assumption) rfl rfl rfl (gX12_carOf hu eg b 0 (by omega) (by omega)) (by decide) ?_
                            first | rw [cb0.1] | rw [cb1.1]
                            refine kv_istore (ls2 := [_, _, _, _, _, _, _, _, _]) dX12_areTied_31 rfl rfl rfl rfl ?_
                            refine kv_iconst dX12_areTied_33 0 ki_0 ?_
                            refine kv_istore (ls2 := [_, _, _, _, _, _, _, _, _]) dX12_areTied_34 rfl rfl rfl rfl ?_
                            refine kv_iconst dX12_areTied_36 0 ki_0 ?_
                            refine kv_istore (ls2 := [_, _, _, _, _, _, _, _, _]) dX12_areTied_37 rfl rfl rfl rfl ?_
                            refine KV.loc (ls2 := [some (.ref 413), some (.int (nI a)), some (.int (nI b)), some (.int 1), some (.int 2), some (.int (nI (kCarOf g a 1))), some (.int (nI (kCarOf g b 0))), some (.int (nI (kAlA g (kCarOf g a 1) (kCarOf g b 0) (0)))), some (.int (nI (0)))]) ?_ (ksS rfl (ksS rfl (ksS rfl (ksS rfl (ksS rfl (ksS rfl (ksS rfl (ksS rfl (ksS rfl ksN)))))))))
                            refine kn_loop (P := fun m => KV w l mX12_areTied 2 0 0 39 [some (.ref 413), some (.int (nI a)), some (.int (nI b)), some (.int 1), some (.int 2), some (.int (nI (kCarOf g a 1))), some (.int (nI (kCarOf g b 0))), some (.int (nI (kAlA g (kCarOf g a 1) (kCarOf g b 0) (m)))), some (.int (nI (m)))] [] u (kq (some (.int (if kTie g a b then 1 else 0))) u)) (3) ?_ (fun m hm ih => ?_)
                            · refine kv_iload dX12_areTied_39 rfl ?_
                              refine kv_iconst dX12_areTied_41 3 ki_3 ?_
                              refine kv_icmp_ge dX12_areTied_42 97 (by decide) (fun h77 => ?_) (fun h77 => ?_)
                              · refine kv_iload_n dX12_areTied_97 rfl ?_
                                refine kv_if_ne dX12_areTied_98 114 (by decide) (fun h78 => ?_) (fun h78 => ?_)
                                · refine kv_iconst dX12_areTied_114 1 ki_1 ?_
                                  refine kv_goto dX12_areTied_115 119 (by decide) ?_
                                  refine kv_istore_n (ls2 := [_, _, _, _, _, _, _, _, _]) dX12_areTied_119 rfl rfl rfl rfl ?_
                                  refine kv_iinc (ls2 := [_, _, _, _, _, _, _, _, _]) dX12_areTied_120 (3 : Int32) rfl rfl rfl rfl rfl rfl ?_
                                  refine kv_goto dX12_areTied_123 5 (by decide) ?_
                                  refine kv_iload dX12_areTied_5 rfl ?_
                                  refine kv_iconst dX12_areTied_7 4 ki_4 ?_
                                  refine kv_icmp_ge dX12_areTied_8 126 (by decide) (fun h79 => ?_) (fun h79 => ?_)
                                  · exact absurd h79 (by decide)
                                  · refine kv_aload_n dX12_areTied_11 rfl ?_
                                    refine kv_iload_n dX12_areTied_12 rfl ?_
                                    refine kv_iload dX12_areTied_13 rfl ?_
                                    refine kv_iconst dX12_areTied_15 2 ki_2 ?_
                                    refine kv_idiv dX12_areTied_16 (by decide) ?_
                                    rw [show ((3 : Int32) / 2) = 1 from rfl]
                                    refine kw_Vi [_, _] mX12_carOf dX12_areTied_17 lX12_116 wX12_carOf kC12 hu rfl (by first | rfl | assumption) rfl rfl rfl (gX12_carOf hu eg a 1 (by omega) (by omega)) (by decide) ?_
                                    first | rw [ca0.1] | rw [ca1.1]
                                    refine kv_istore (ls2 := [_, _, _, _, _, _, _, _, _]) dX12_areTied_20 rfl rfl rfl rfl ?_
                                    refine kv_aload_n dX12_areTied_22 rfl ?_
                                    refine kv_iload_n dX12_areTied_23 rfl ?_
                                    refine kv_iload dX12_areTied_24 rfl ?_
                                    refine kv_iconst dX12_areTied_26 2 ki_2 ?_
                                    refine kv_irem dX12_areTied_27 (by decide) ?_
                                    rw [show ((3 : Int32) - 3 / 2 * 2) = 1 from rfl]
                                    refine kw_Vi [_, _] mX12_carOf dX12_areTied_28 lX12_116 wX12_carOf kC12 hu rfl (by first | rfl | assumption) rfl rfl rfl (gX12_carOf hu eg b 1 (by omega) (by omega)) (by decide) ?_
                                    first | rw [cb0.1] | rw [cb1.1]
                                    refine kv_istore (ls2 := [_, _, _, _, _, _, _, _, _]) dX12_areTied_31 rfl rfl rfl rfl ?_
                                    refine kv_iconst dX12_areTied_33 0 ki_0 ?_
                                    refine kv_istore (ls2 := [_, _, _, _, _, _, _, _, _]) dX12_areTied_34 rfl rfl rfl rfl ?_
                                    refine kv_iconst dX12_areTied_36 0 ki_0 ?_
                                    refine kv_istore (ls2 := [_, _, _, _, _, _, _, _, _]) dX12_areTied_37 rfl rfl rfl rfl ?_
                                    refine KV.loc (ls2 := [some (.ref 413), some (.int (nI a)), some (.int (nI b)), some (.int 1), some (.int 3), some (.int (nI (kCarOf g a 1))), some (.int (nI (kCarOf g b 1))), some (.int (nI (kAlA g (kCarOf g a 1) (kCarOf g b 1) (0)))), some (.int (nI (0)))]) ?_ (ksS rfl (ksS rfl (ksS rfl (ksS rfl (ksS rfl (ksS rfl (ksS rfl (ksS rfl (ksS rfl ksN)))))))))
                                    refine kn_loop (P := fun m => KV w l mX12_areTied 2 0 0 39 [some (.ref 413), some (.int (nI a)), some (.int (nI b)), some (.int 1), some (.int 3), some (.int (nI (kCarOf g a 1))), some (.int (nI (kCarOf g b 1))), some (.int (nI (kAlA g (kCarOf g a 1) (kCarOf g b 1) (m)))), some (.int (nI (m)))] [] u (kq (some (.int (if kTie g a b then 1 else 0))) u)) (3) ?_ (fun m hm ih => ?_)
                                    · refine kv_iload dX12_areTied_39 rfl ?_
                                      refine kv_iconst dX12_areTied_41 3 ki_3 ?_
                                      refine kv_icmp_ge dX12_areTied_42 97 (by decide) (fun h80 => ?_) (fun h80 => ?_)
                                      · refine kv_iload_n dX12_areTied_97 rfl ?_
                                        refine kv_if_ne dX12_areTied_98 114 (by decide) (fun h81 => ?_) (fun h81 => ?_)
                                        · refine kv_iconst dX12_areTied_114 1 ki_1 ?_
                                          refine kv_goto dX12_areTied_115 119 (by decide) ?_
                                          refine kv_istore_n (ls2 := [_, _, _, _, _, _, _, _, _]) dX12_areTied_119 rfl rfl rfl rfl ?_
                                          refine kv_iinc (ls2 := [_, _, _, _, _, _, _, _, _]) dX12_areTied_120 (4 : Int32) rfl rfl rfl rfl rfl rfl ?_
                                          refine kv_goto dX12_areTied_123 5 (by decide) ?_
                                          refine kv_iload dX12_areTied_5 rfl ?_
                                          refine kv_iconst dX12_areTied_7 4 ki_4 ?_
                                          refine kv_icmp_ge dX12_areTied_8 126 (by decide) (fun h82 => ?_) (fun h82 => ?_)
                                          · refine kv_iload_n dX12_areTied_126 rfl ?_
                                            exact kv_zret dX12_areTied_127 rfl kv_z1 (by first | exact ⟨by rw [if_pos H], rfl⟩ | exact ⟨by rw [if_neg (by rintro ((q | q) | (q | q) | (q | q) | (q | q)) <;> contradiction)], rfl⟩)
                                          · exact absurd h82 (by decide)
                                        · exact absurd h81 (by decide)
                                      · exact absurd (Int32.le_refl (nI 3)) h80
                                    · have e1 : kAlA g (kCarOf g a 1) (kCarOf g b 1) (m + 1) = kAlA g (kCarOf g a 1) (kCarOf g b 1) m + (if ¬ g (40 + 8 * (kCarOf g a 1) + (5 + m)) < 0 ∧ g (40 + 8 * (kCarOf g a 1) + (5 + m)) = g (40 + 8 * (kCarOf g b 1) + (5 + m)) then 1 else 0) := rfl
                                      refine kv_iload dX12_areTied_39 rfl ?_
                                      refine kv_iconst dX12_areTied_41 3 ki_3 ?_
                                      refine kv_icmp_ge dX12_areTied_42 97 (by decide) (fun h83 => ?_) (fun h83 => ?_)
                                      · exact absurd h83 (kn_ge (n := 3) hm (by omega))
                                      · refine kv_iload dX12_areTied_45 rfl ?_
                                        refine kv_aload_n dX12_areTied_47 rfl ?_
                                        refine kv_iload dX12_areTied_48 rfl ?_
                                        refine kv_iconst dX12_areTied_50 5 ki_5 ?_
                                        refine kv_iload dX12_areTied_51 rfl ?_
                                        refine kv_iadd dX12_areTied_53 ?_
                                        rw [show (5 + nI m : Int32) = nI (5 + m) from kn_add (show (5 : Int32) = nI 5 from rfl) rfl]
                                        refine kw_Vi [_, _] mX12_car dX12_areTied_54 lX12_89 wX12_car kC12 hu rfl (by first | rfl | assumption) rfl rfl rfl (by first | exact gX12_car hu eg (kCarOf g a 0) (5 + m) (by omega) (by omega) | exact gX12_car hu eg (kCarOf g a 1) (5 + m) (by omega) (by omega) ) (by decide) ?_
                                        refine kv_if_lt dX12_areTied_57 87 (by decide) (fun h84 => ?_) (fun h84 => ?_)
                                        · have hq : ¬ (¬ g (40 + 8 * (kCarOf g a 1) + (5 + m)) < 0 ∧ g (40 + 8 * (kCarOf g a 1) + (5 + m)) = g (40 + 8 * (kCarOf g b 1) + (5 + m))) := fun q => q.1 h84
                                          refine kv_iconst dX12_areTied_87 0 ki_0 ?_
                                          refine kv_iadd dX12_areTied_88 ?_
                                          refine kv_istore (ls2 := [_, _, _, _, _, _, _, _, _]) dX12_areTied_89 rfl rfl rfl rfl ?_
                                          refine kv_iinc (ls2 := [_, _, _, _, _, _, _, _, _]) dX12_areTied_91 (nI (m + 1)) rfl (kv_inc1 m) rfl rfl rfl rfl ?_
                                          refine kv_goto dX12_areTied_94 39 (by decide) ?_
                                          exact KV.loc ih (ksS (by first | rfl | exact congrArg (fun z => some (Value.int z)) ((kn_add rfl (show (1 : Int32) = nI 1 from rfl)).trans (congrArg nI (by rw [e1, if_pos hq]))) | exact congrArg (fun z => some (Value.int z)) ((kn_add rfl (show (0 : Int32) = nI 0 from rfl)).trans (congrArg nI (by rw [e1, if_neg hq])))) (ksS (by first | rfl | exact congrArg (fun z => some (Value.int z)) ((kn_add rfl (show (1 : Int32) = nI 1 from rfl)).trans (congrArg nI (by rw [e1, if_pos hq]))) | exact congrArg (fun z => some (Value.int z)) ((kn_add rfl (show (0 : Int32) = nI 0 from rfl)).trans (congrArg nI (by rw [e1, if_neg hq])))) (ksS (by first | rfl | exact congrArg (fun z => some (Value.int z)) ((kn_add rfl (show (1 : Int32) = nI 1 from rfl)).trans (congrArg nI (by rw [e1, if_pos hq]))) | exact congrArg (fun z => some (Value.int z)) ((kn_add rfl (show (0 : Int32) = nI 0 from rfl)).trans (congrArg nI (by rw [e1, if_neg hq])))) (ksS (by first | rfl | exact congrArg (fun z => some (Value.int z)) ((kn_add rfl (show (1 : Int32) = nI 1 from rfl)).trans (congrArg nI (by rw [e1, if_pos hq]))) | exact congrArg (fun z => some (Value.int z)) ((kn_add rfl (show (0 : Int32) = nI 0 from rfl)).trans (congrArg nI (by rw [e1, if_neg hq])))) (ksS (by first | rfl | exact congrArg (fun z => some (Value.int z)) ((kn_add rfl (show (1 : Int32) = nI 1 from rfl)).trans (congrArg nI (by rw [e1, if_pos hq]))) | exact congrArg (fun z => some (Value.int z)) ((kn_add rfl (show (0 : Int32) = nI 0 from rfl)).trans (congrArg nI (by rw [e1, if_neg hq])))) (ksS (by first | rfl | exact congrArg (fun z => some (Value.int z)) ((kn_add rfl (show (1 : Int32) = nI 1 from rfl)).trans (congrArg nI (by rw [e1, if_pos hq]))) | exact congrArg (fun z => some (Value.int z)) ((kn_add rfl (show (0 : Int32) = nI 0 from rfl)).trans (congrArg nI (by rw [e1, if_neg hq])))) (ksS (by first | rfl | exact congrArg (fun z => some (Value.int z)) ((kn_add rfl (show (1 : Int32) = nI 1 from rfl)).trans (congrArg nI (by rw [e1, if_pos hq]))) | exact congrArg (fun z => some (Value.int z)) ((kn_add rfl (show (0 : Int32) = nI 0 from rfl)).trans (congrArg nI (by rw [e1, if_neg hq])))) (ksS (by first | rfl | exact congrArg (fun z => some (Value.int z)) ((kn_add rfl (show (1 : Int32) = nI 1 from rfl)).trans (congrArg nI (by rw [e1, if_pos hq]))) | exact congrArg (fun z => some (Value.int z)) ((kn_add rfl (show (0 : Int32) = nI 0 from rfl)).trans (congrArg nI (by rw [e1, if_neg hq])))) (ksS (by first | rfl | exact congrArg (fun z => some (Value.int z)) ((kn_add rfl (show (1 : Int32) = nI 1 from rfl)).trans (congrArg nI (by rw [e1, if_pos hq]))) | exact congrArg (fun z => some (Value.int z)) ((kn_add rfl (show (0 : Int32) = nI 0 from rfl)).trans (congrArg nI (by rw [e1, if_neg hq])))) ksN)))))))))
                                        · have h0 := h84
                                          refine kv_aload_n dX12_areTied_60 rfl ?_
                                          refine kv_iload dX12_areTied_61 rfl ?_
                                          refine kv_iconst dX12_areTied_63 5 ki_5 ?_
                                          refine kv_iload dX12_areTied_64 rfl ?_
                                          refine kv_iadd dX12_areTied_66 ?_
                                          rw [show (5 + nI m : Int32) = nI (5 + m) from kn_add (show (5 : Int32) = nI 5 from rfl) rfl]
                                          refine kw_Vi [_, _] mX12_car dX12_areTied_67 lX12_89 wX12_car kC12 hu rfl (by first | rfl | assumption) rfl rfl rfl (by first | exact gX12_car hu eg (kCarOf g a 0) (5 + m) (by omega) (by omega) | exact gX12_car hu eg (kCarOf g a 1) (5 + m) (by omega) (by omega) ) (by decide) ?_
                                          refine kv_aload_n dX12_areTied_70 rfl ?_
                                          refine kv_iload dX12_areTied_71 rfl ?_
                                          refine kv_iconst dX12_areTied_73 5 ki_5 ?_
                                          refine kv_iload dX12_areTied_74 rfl ?_
                                          refine kv_iadd dX12_areTied_76 ?_
                                          rw [show (5 + nI m : Int32) = nI (5 + m) from kn_add (show (5 : Int32) = nI 5 from rfl) rfl]
                                          refine kw_Vi [_, _] mX12_car dX12_areTied_77 lX12_89 wX12_car kC12 hu rfl (by first | rfl | assumption) rfl rfl rfl (by first | exact gX12_car hu eg (kCarOf g b 0) (5 + m) (by omega) (by omega) | exact gX12_car hu eg (kCarOf g b 1) (5 + m) (by omega) (by omega) ) (by decide) ?_
                                          refine kv_icmp_ne dX12_areTied_80 87 (by decide) (fun h85 => ?_) (fun h85 => ?_)
                                          · have hq : ¬ (¬ g (40 + 8 * (kCarOf g a 1) + (5 + m)) < 0 ∧ g (40 + 8 * (kCarOf g a 1) + (5 + m)) = g (40 + 8 * (kCarOf g b 1) + (5 + m))) := fun q => h85 q.2
                                            refine kv_iconst dX12_areTied_87 0 ki_0 ?_
                                            refine kv_iadd dX12_areTied_88 ?_
                                            refine kv_istore (ls2 := [_, _, _, _, _, _, _, _, _]) dX12_areTied_89 rfl rfl rfl rfl ?_
                                            refine kv_iinc (ls2 := [_, _, _, _, _, _, _, _, _]) dX12_areTied_91 (nI (m + 1)) rfl (kv_inc1 m) rfl rfl rfl rfl ?_
                                            refine kv_goto dX12_areTied_94 39 (by decide) ?_
                                            exact KV.loc ih (ksS (by first | rfl | exact congrArg (fun z => some (Value.int z)) ((kn_add rfl (show (1 : Int32) = nI 1 from rfl)).trans (congrArg nI (by rw [e1, if_pos hq]))) | exact congrArg (fun z => some (Value.int z)) ((kn_add rfl (show (0 : Int32) = nI 0 from rfl)).trans (congrArg nI (by rw [e1, if_neg hq])))) (ksS (by first | rfl | exact congrArg (fun z => some (Value.int z)) ((kn_add rfl (show (1 : Int32) = nI 1 from rfl)).trans (congrArg nI (by rw [e1, if_pos hq]))) | exact congrArg (fun z => some (Value.int z)) ((kn_add rfl (show (0 : Int32) = nI 0 from rfl)).trans (congrArg nI (by rw [e1, if_neg hq])))) (ksS (by first | rfl | exact congrArg (fun z => some (Value.int z)) ((kn_add rfl (show (1 : Int32) = nI 1 from rfl)).trans (congrArg nI (by rw [e1, if_pos hq]))) | exact congrArg (fun z => some (Value.int z)) ((kn_add rfl (show (0 : Int32) = nI 0 from rfl)).trans (congrArg nI (by rw [e1, if_neg hq])))) (ksS (by first | rfl | exact congrArg (fun z => some (Value.int z)) ((kn_add rfl (show (1 : Int32) = nI 1 from rfl)).trans (congrArg nI (by rw [e1, if_pos hq]))) | exact congrArg (fun z => some (Value.int z)) ((kn_add rfl (show (0 : Int32) = nI 0 from rfl)).trans (congrArg nI (by rw [e1, if_neg hq])))) (ksS (by first | rfl | exact congrArg (fun z => some (Value.int z)) ((kn_add rfl (show (1 : Int32) = nI 1 from rfl)).trans (congrArg nI (by rw [e1, if_pos hq]))) | exact congrArg (fun z => some (Value.int z)) ((kn_add rfl (show (0 : Int32) = nI 0 from rfl)).trans (congrArg nI (by rw [e1, if_neg hq])))) (ksS (by first | rfl | exact congrArg (fun z => some (Value.int z)) ((kn_add rfl (show (1 : Int32) = nI 1 from rfl)).trans (congrArg nI (by rw [e1, if_pos hq]))) | exact congrArg (fun z => some (Value.int z)) ((kn_add rfl (show (0 : Int32) = nI 0 from rfl)).trans (congrArg nI (by rw [e1, if_neg hq])))) (ksS (by first | rfl | exact congrArg (fun z => some (Value.int z)) ((kn_add rfl (show (1 : Int32) = nI 1 from rfl)).trans (congrArg nI (by rw [e1, if_pos hq]))) | exact congrArg (fun z => some (Value.int z)) ((kn_add rfl (show (0 : Int32) = nI 0 from rfl)).trans (congrArg nI (by rw [e1, if_neg hq])))) (ksS (by first | rfl | exact congrArg (fun z => some (Value.int z)) ((kn_add rfl (show (1 : Int32) = nI 1 from rfl)).trans (congrArg nI (by rw [e1, if_pos hq]))) | exact congrArg (fun z => some (Value.int z)) ((kn_add rfl (show (0 : Int32) = nI 0 from rfl)).trans (congrArg nI (by rw [e1, if_neg hq])))) (ksS (by first | rfl | exact congrArg (fun z => some (Value.int z)) ((kn_add rfl (show (1 : Int32) = nI 1 from rfl)).trans (congrArg nI (by rw [e1, if_pos hq]))) | exact congrArg (fun z => some (Value.int z)) ((kn_add rfl (show (0 : Int32) = nI 0 from rfl)).trans (congrArg nI (by rw [e1, if_neg hq])))) ksN)))))))))
                                          · have hq : ¬ g (40 + 8 * (kCarOf g a 1) + (5 + m)) < 0 ∧ g (40 + 8 * (kCarOf g a 1) + (5 + m)) = g (40 + 8 * (kCarOf g b 1) + (5 + m)) := ⟨h0, h85⟩
                                            refine kv_iconst dX12_areTied_83 1 ki_1 ?_
                                            refine kv_goto dX12_areTied_84 88 (by decide) ?_
                                            refine kv_iadd dX12_areTied_88 ?_
                                            refine kv_istore (ls2 := [_, _, _, _, _, _, _, _, _]) dX12_areTied_89 rfl rfl rfl rfl ?_
                                            refine kv_iinc (ls2 := [_, _, _, _, _, _, _, _, _]) dX12_areTied_91 (nI (m + 1)) rfl (kv_inc1 m) rfl rfl rfl rfl ?_
                                            refine kv_goto dX12_areTied_94 39 (by decide) ?_
                                            exact KV.loc ih (ksS (by first | rfl | exact congrArg (fun z => some (Value.int z)) ((kn_add rfl (show (1 : Int32) = nI 1 from rfl)).trans (congrArg nI (by rw [e1, if_pos hq]))) | exact congrArg (fun z => some (Value.int z)) ((kn_add rfl (show (0 : Int32) = nI 0 from rfl)).trans (congrArg nI (by rw [e1, if_neg hq])))) (ksS (by first | rfl | exact congrArg (fun z => some (Value.int z)) ((kn_add rfl (show (1 : Int32) = nI 1 from rfl)).trans (congrArg nI (by rw [e1, if_pos hq]))) | exact congrArg (fun z => some (Value.int z)) ((kn_add rfl (show (0 : Int32) = nI 0 from rfl)).trans (congrArg nI (by rw [e1, if_neg hq])))) (ksS (by first | rfl | exact congrArg (fun z => some (Value.int z)) ((kn_add rfl (show (1 : Int32) = nI 1 from rfl)).trans (congrArg nI (by rw [e1, if_pos hq]))) | exact congrArg (fun z => some (Value.int z)) ((kn_add rfl (show (0 : Int32) = nI 0 from rfl)).trans (congrArg nI (by rw [e1, if_neg hq])))) (ksS (by first | rfl | exact congrArg (fun z => some (Value.int z)) ((kn_add rfl (show (1 : Int32) = nI 1 from rfl)).trans (congrArg nI (by rw [e1, if_pos hq]))) | exact congrArg (fun z => some (Value.int z)) ((kn_add rfl (show (0 : Int32) = nI 0 from rfl)).trans (congrArg nI (by rw [e1, if_neg hq])))) (ksS (by first | rfl | exact congrArg (fun z => some (Value.int z)) ((kn_add rfl (show (1 : Int32) = nI 1 from rfl)).trans (congrArg nI (by rw [e1, if_pos hq]))) | exact congrArg (fun z => some (Value.int z)) ((kn_add rfl (show (0 : Int32) = nI 0 from rfl)).trans (congrArg nI (by rw [e1, if_neg hq])))) (ksS (by first | rfl | exact congrArg (fun z => some (Value.int z)) ((kn_add rfl (show (1 : Int32) = nI 1 from rfl)).trans (congrArg nI (by rw [e1, if_pos hq]))) | exact congrArg (fun z => some (Value.int z)) ((kn_add rfl (show (0 : Int32) = nI 0 from rfl)).trans (congrArg nI (by rw [e1, if_neg hq])))) (ksS (by first | rfl | exact congrArg (fun z => some (Value.int z)) ((kn_add rfl (show (1 : Int32) = nI 1 from rfl)).trans (congrArg nI (by rw [e1, if_pos hq]))) | exact congrArg (fun z => some (Value.int z)) ((kn_add rfl (show (0 : Int32) = nI 0 from rfl)).trans (congrArg nI (by rw [e1, if_neg hq])))) (ksS (by first | rfl | exact congrArg (fun z => some (Value.int z)) ((kn_add rfl (show (1 : Int32) = nI 1 from rfl)).trans (congrArg nI (by rw [e1, if_pos hq]))) | exact congrArg (fun z => some (Value.int z)) ((kn_add rfl (show (0 : Int32) = nI 0 from rfl)).trans (congrArg nI (by rw [e1, if_neg hq])))) (ksS (by first | rfl | exact congrArg (fun z => some (Value.int z)) ((kn_add rfl (show (1 : Int32) = nI 1 from rfl)).trans (congrArg nI (by rw [e1, if_pos hq]))) | exact congrArg (fun z => some (Value.int z)) ((kn_add rfl (show (0 : Int32) = nI 0 from rfl)).trans (congrArg nI (by rw [e1, if_neg hq])))) ksN)))))))))
                                · exact absurd h78 (by decide)
                              · exact absurd (Int32.le_refl (nI 3)) h77
                            · have e1 : kAlA g (kCarOf g a 1) (kCarOf g b 0) (m + 1) = kAlA g (kCarOf g a 1) (kCarOf g b 0) m + (if ¬ g (40 + 8 * (kCarOf g a 1) + (5 + m)) < 0 ∧ g (40 + 8 * (kCarOf g a 1) + (5 + m)) = g (40 + 8 * (kCarOf g b 0) + (5 + m)) then 1 else 0) := rfl
                              refine kv_iload dX12_areTied_39 rfl ?_
                              refine kv_iconst dX12_areTied_41 3 ki_3 ?_
                              refine kv_icmp_ge dX12_areTied_42 97 (by decide) (fun h86 => ?_) (fun h86 => ?_)
                              · exact absurd h86 (kn_ge (n := 3) hm (by omega))
                              · refine kv_iload dX12_areTied_45 rfl ?_
                                refine kv_aload_n dX12_areTied_47 rfl ?_
                                refine kv_iload dX12_areTied_48 rfl ?_
                                refine kv_iconst dX12_areTied_50 5 ki_5 ?_
                                refine kv_iload dX12_areTied_51 rfl ?_
                                refine kv_iadd dX12_areTied_53 ?_
                                rw [show (5 + nI m : Int32) = nI (5 + m) from kn_add (show (5 : Int32) = nI 5 from rfl) rfl]
                                refine kw_Vi [_, _] mX12_car dX12_areTied_54 lX12_89 wX12_car kC12 hu rfl (by first | rfl | assumption) rfl rfl rfl (by first | exact gX12_car hu eg (kCarOf g a 0) (5 + m) (by omega) (by omega) | exact gX12_car hu eg (kCarOf g a 1) (5 + m) (by omega) (by omega) ) (by decide) ?_
                                refine kv_if_lt dX12_areTied_57 87 (by decide) (fun h87 => ?_) (fun h87 => ?_)
                                · have hq : ¬ (¬ g (40 + 8 * (kCarOf g a 1) + (5 + m)) < 0 ∧ g (40 + 8 * (kCarOf g a 1) + (5 + m)) = g (40 + 8 * (kCarOf g b 0) + (5 + m))) := fun q => q.1 h87
                                  refine kv_iconst dX12_areTied_87 0 ki_0 ?_
                                  refine kv_iadd dX12_areTied_88 ?_
                                  refine kv_istore (ls2 := [_, _, _, _, _, _, _, _, _]) dX12_areTied_89 rfl rfl rfl rfl ?_
                                  refine kv_iinc (ls2 := [_, _, _, _, _, _, _, _, _]) dX12_areTied_91 (nI (m + 1)) rfl (kv_inc1 m) rfl rfl rfl rfl ?_
                                  refine kv_goto dX12_areTied_94 39 (by decide) ?_
                                  exact KV.loc ih (ksS (by first | rfl | exact congrArg (fun z => some (Value.int z)) ((kn_add rfl (show (1 : Int32) = nI 1 from rfl)).trans (congrArg nI (by rw [e1, if_pos hq]))) | exact congrArg (fun z => some (Value.int z)) ((kn_add rfl (show (0 : Int32) = nI 0 from rfl)).trans (congrArg nI (by rw [e1, if_neg hq])))) (ksS (by first | rfl | exact congrArg (fun z => some (Value.int z)) ((kn_add rfl (show (1 : Int32) = nI 1 from rfl)).trans (congrArg nI (by rw [e1, if_pos hq]))) | exact congrArg (fun z => some (Value.int z)) ((kn_add rfl (show (0 : Int32) = nI 0 from rfl)).trans (congrArg nI (by rw [e1, if_neg hq])))) (ksS (by first | rfl | exact congrArg (fun z => some (Value.int z)) ((kn_add rfl (show (1 : Int32) = nI 1 from rfl)).trans (congrArg nI (by rw [e1, if_pos hq]))) | exact congrArg (fun z => some (Value.int z)) ((kn_add rfl (show (0 : Int32) = nI 0 from rfl)).trans (congrArg nI (by rw [e1, if_neg hq])))) (ksS (by first | rfl | exact congrArg (fun z => some (Value.int z)) ((kn_add rfl (show (1 : Int32) = nI 1 from rfl)).trans (congrArg nI (by rw [e1, if_pos hq]))) | exact congrArg (fun z => some (Value.int z)) ((kn_add rfl (show (0 : Int32) = nI 0 from rfl)).trans (congrArg nI (by rw [e1, if_neg hq])))) (ksS (by first | rfl | exact congrArg (fun z => some (Value.int z)) ((kn_add rfl (show (1 : Int32) = nI 1 from rfl)).trans (congrArg nI (by rw [e1, if_pos hq]))) | exact congrArg (fun z => some (Value.int z)) ((kn_add rfl (show (0 : Int32) = nI 0 from rfl)).trans (congrArg nI (by rw [e1, if_neg hq])))) (ksS (by first | rfl | exact congrArg (fun z => some (Value.int z)) ((kn_add rfl (show (1 : Int32) = nI 1 from rfl)).trans (congrArg nI (by rw [e1, if_pos hq]))) | exact congrArg (fun z => some (Value.int z)) ((kn_add rfl (show (0 : Int32) = nI 0 from rfl)).trans (congrArg nI (by rw [e1, if_neg hq])))) (ksS (by first | rfl | exact congrArg (fun z => some (Value.int z)) ((kn_add rfl (show (1 : Int32) = nI 1 from rfl)).trans (congrArg nI (by rw [e1, if_pos hq]))) | exact congrArg (fun z => some (Value.int z)) ((kn_add rfl (show (0 : Int32) = nI 0 from rfl)).trans (congrArg nI (by rw [e1, if_neg hq])))) (ksS (by first | rfl | exact congrArg (fun z => some (Value.int z)) ((kn_add rfl (show (1 : Int32) = nI 1 from rfl)).trans (congrArg nI (by rw [e1, if_pos hq]))) | exact congrArg (fun z => some (Value.int z)) ((kn_add rfl (show (0 : Int32) = nI 0 from rfl)).trans (congrArg nI (by rw [e1, if_neg hq])))) (ksS (by first | rfl | exact congrArg (fun z => some (Value.int z)) ((kn_add rfl (show (1 : Int32) = nI 1 from rfl)).trans (congrArg nI (by rw [e1, if_pos hq]))) | exact congrArg (fun z => some (Value.int z)) ((kn_add rfl (show (0 : Int32) = nI 0 from rfl)).trans (congrArg nI (by rw [e1, if_neg hq])))) ksN)))))))))
                                · have h0 := h87
                                  refine kv_aload_n dX12_areTied_60 rfl ?_
                                  refine kv_iload dX12_areTied_61 rfl ?_
                                  refine kv_iconst dX12_areTied_63 5 ki_5 ?_
                                  refine kv_iload dX12_areTied_64 rfl ?_
                                  refine kv_iadd dX12_areTied_66 ?_
                                  rw [show (5 + nI m : Int32) = nI (5 + m) from kn_add (show (5 : Int32) = nI 5 from rfl) rfl]
                                  refine kw_Vi [_, _] mX12_car dX12_areTied_67 lX12_89 wX12_car kC12 hu rfl (by first | rfl | assumption) rfl rfl rfl (by first | exact gX12_car hu eg (kCarOf g a 0) (5 + m) (by omega) (by omega) | exact gX12_car hu eg (kCarOf g a 1) (5 + m) (by omega) (by omega) ) (by decide) ?_
                                  refine kv_aload_n dX12_areTied_70 rfl ?_
                                  refine kv_iload dX12_areTied_71 rfl ?_
                                  refine kv_iconst dX12_areTied_73 5 ki_5 ?_
                                  refine kv_iload dX12_areTied_74 rfl ?_
                                  refine kv_iadd dX12_areTied_76 ?_
                                  rw [show (5 + nI m : Int32) = nI (5 + m) from kn_add (show (5 : Int32) = nI 5 from rfl) rfl]
                                  refine kw_Vi [_, _] mX12_car dX12_areTied_77 lX12_89 wX12_car kC12 hu rfl (by first | rfl | assumption) rfl rfl rfl (by first | exact gX12_car hu eg (kCarOf g b 0) (5 + m) (by omega) (by omega) | exact gX12_car hu eg (kCarOf g b 1) (5 + m) (by omega) (by omega) ) (by decide) ?_
                                  refine kv_icmp_ne dX12_areTied_80 87 (by decide) (fun h88 => ?_) (fun h88 => ?_)
                                  · have hq : ¬ (¬ g (40 + 8 * (kCarOf g a 1) + (5 + m)) < 0 ∧ g (40 + 8 * (kCarOf g a 1) + (5 + m)) = g (40 + 8 * (kCarOf g b 0) + (5 + m))) := fun q => h88 q.2
                                    refine kv_iconst dX12_areTied_87 0 ki_0 ?_
                                    refine kv_iadd dX12_areTied_88 ?_
                                    refine kv_istore (ls2 := [_, _, _, _, _, _, _, _, _]) dX12_areTied_89 rfl rfl rfl rfl ?_
                                    refine kv_iinc (ls2 := [_, _, _, _, _, _, _, _, _]) dX12_areTied_91 (nI (m + 1)) rfl (kv_inc1 m) rfl rfl rfl rfl ?_
                                    refine kv_goto dX12_areTied_94 39 (by decide) ?_
                                    exact KV.loc ih (ksS (by first | rfl | exact congrArg (fun z => some (Value.int z)) ((kn_add rfl (show (1 : Int32) = nI 1 from rfl)).trans (congrArg nI (by rw [e1, if_pos hq]))) | exact congrArg (fun z => some (Value.int z)) ((kn_add rfl (show (0 : Int32) = nI 0 from rfl)).trans (congrArg nI (by rw [e1, if_neg hq])))) (ksS (by first | rfl | exact congrArg (fun z => some (Value.int z)) ((kn_add rfl (show (1 : Int32) = nI 1 from rfl)).trans (congrArg nI (by rw [e1, if_pos hq]))) | exact congrArg (fun z => some (Value.int z)) ((kn_add rfl (show (0 : Int32) = nI 0 from rfl)).trans (congrArg nI (by rw [e1, if_neg hq])))) (ksS (by first | rfl | exact congrArg (fun z => some (Value.int z)) ((kn_add rfl (show (1 : Int32) = nI 1 from rfl)).trans (congrArg nI (by rw [e1, if_pos hq]))) | exact congrArg (fun z => some (Value.int z)) ((kn_add rfl (show (0 : Int32) = nI 0 from rfl)).trans (congrArg nI (by rw [e1, if_neg hq])))) (ksS (by first | rfl | exact congrArg (fun z => some (Value.int z)) ((kn_add rfl (show (1 : Int32) = nI 1 from rfl)).trans (congrArg nI (by rw [e1, if_pos hq]))) | exact congrArg (fun z => some (Value.int z)) ((kn_add rfl (show (0 : Int32) = nI 0 from rfl)).trans (congrArg nI (by rw [e1, if_neg hq])))) (ksS (by first | rfl | exact congrArg (fun z => some (Value.int z)) ((kn_add rfl (show (1 : Int32) = nI 1 from rfl)).trans (congrArg nI (by rw [e1, if_pos hq]))) | exact congrArg (fun z => some (Value.int z)) ((kn_add rfl (show (0 : Int32) = nI 0 from rfl)).trans (congrArg nI (by rw [e1, if_neg hq])))) (ksS (by first | rfl | exact congrArg (fun z => some (Value.int z)) ((kn_add rfl (show (1 : Int32) = nI 1 from rfl)).trans (congrArg nI (by rw [e1, if_pos hq]))) | exact congrArg (fun z => some (Value.int z)) ((kn_add rfl (show (0 : Int32) = nI 0 from rfl)).trans (congrArg nI (by rw [e1, if_neg hq])))) (ksS (by first | rfl | exact congrArg (fun z => some (Value.int z)) ((kn_add rfl (show (1 : Int32) = nI 1 from rfl)).trans (congrArg nI (by rw [e1, if_pos hq]))) | exact congrArg (fun z => some (Value.int z)) ((kn_add rfl (show (0 : Int32) = nI 0 from rfl)).trans (congrArg nI (by rw [e1, if_neg hq])))) (ksS (by first | rfl | exact congrArg (fun z => some (Value.int z)) ((kn_add rfl (show (1 : Int32) = nI 1 from rfl)).trans (congrArg nI (by rw [e1, if_pos hq]))) | exact congrArg (fun z => some (Value.int z)) ((kn_add rfl (show (0 : Int32) = nI 0 from rfl)).trans (congrArg nI (by rw [e1, if_neg hq])))) (ksS (by first | rfl | exact congrArg (fun z => some (Value.int z)) ((kn_add rfl (show (1 : Int32) = nI 1 from rfl)).trans (congrArg nI (by rw [e1, if_pos hq]))) | exact congrArg (fun z => some (Value.int z)) ((kn_add rfl (show (0 : Int32) = nI 0 from rfl)).trans (congrArg nI (by rw [e1, if_neg hq])))) ksN)))))))))
                                  · have hq : ¬ g (40 + 8 * (kCarOf g a 1) + (5 + m)) < 0 ∧ g (40 + 8 * (kCarOf g a 1) + (5 + m)) = g (40 + 8 * (kCarOf g b 0) + (5 + m)) := ⟨h0, h88⟩
                                    refine kv_iconst dX12_areTied_83 1 ki_1 ?_
                                    refine kv_goto dX12_areTied_84 88 (by decide) ?_
                                    refine kv_iadd dX12_areTied_88 ?_
                                    refine kv_istore (ls2 := [_, _, _, _, _, _, _, _, _]) dX12_areTied_89 rfl rfl rfl rfl ?_
                                    refine kv_iinc (ls2 := [_, _, _, _, _, _, _, _, _]) dX12_areTied_91 (nI (m + 1)) rfl (kv_inc1 m) rfl rfl rfl rfl ?_
                                    refine kv_goto dX12_areTied_94 39 (by decide) ?_
                                    exact KV.loc ih (ksS (by first | rfl | exact congrArg (fun z => some (Value.int z)) ((kn_add rfl (show (1 : Int32) = nI 1 from rfl)).trans (congrArg nI (by rw [e1, if_pos hq]))) | exact congrArg (fun z => some (Value.int z)) ((kn_add rfl (show (0 : Int32) = nI 0 from rfl)).trans (congrArg nI (by rw [e1, if_neg hq])))) (ksS (by first | rfl | exact congrArg (fun z => some (Value.int z)) ((kn_add rfl (show (1 : Int32) = nI 1 from rfl)).trans (congrArg nI (by rw [e1, if_pos hq]))) | exact congrArg (fun z => some (Value.int z)) ((kn_add rfl (show (0 : Int32) = nI 0 from rfl)).trans (congrArg nI (by rw [e1, if_neg hq])))) (ksS (by first | rfl | exact congrArg (fun z => some (Value.int z)) ((kn_add rfl (show (1 : Int32) = nI 1 from rfl)).trans (congrArg nI (by rw [e1, if_pos hq]))) | exact congrArg (fun z => some (Value.int z)) ((kn_add rfl (show (0 : Int32) = nI 0 from rfl)).trans (congrArg nI (by rw [e1, if_neg hq])))) (ksS (by first | rfl | exact congrArg (fun z => some (Value.int z)) ((kn_add rfl (show (1 : Int32) = nI 1 from rfl)).trans (congrArg nI (by rw [e1, if_pos hq]))) | exact congrArg (fun z => some (Value.int z)) ((kn_add rfl (show (0 : Int32) = nI 0 from rfl)).trans (congrArg nI (by rw [e1, if_neg hq])))) (ksS (by first | rfl | exact congrArg (fun z => some (Value.int z)) ((kn_add rfl (show (1 : Int32) = nI 1 from rfl)).trans (congrArg nI (by rw [e1, if_pos hq]))) | exact congrArg (fun z => some (Value.int z)) ((kn_add rfl (show (0 : Int32) = nI 0 from rfl)).trans (congrArg nI (by rw [e1, if_neg hq])))) (ksS (by first | rfl | exact congrArg (fun z => some (Value.int z)) ((kn_add rfl (show (1 : Int32) = nI 1 from rfl)).trans (congrArg nI (by rw [e1, if_pos hq]))) | exact congrArg (fun z => some (Value.int z)) ((kn_add rfl (show (0 : Int32) = nI 0 from rfl)).trans (congrArg nI (by rw [e1, if_neg hq])))) (ksS (by first | rfl | exact congrArg (fun z => some (Value.int z)) ((kn_add rfl (show (1 : Int32) = nI 1 from rfl)).trans (congrArg nI (by rw [e1, if_pos hq]))) | exact congrArg (fun z => some (Value.int z)) ((kn_add rfl (show (0 : Int32) = nI 0 from rfl)).trans (congrArg nI (by rw [e1, if_neg hq])))) (ksS (by first | rfl | exact congrArg (fun z => some (Value.int z)) ((kn_add rfl (show (1 : Int32) = nI 1 from rfl)).trans (congrArg nI (by rw [e1, if_pos hq]))) | exact congrArg (fun z => some (Value.int z)) ((kn_add rfl (show (0 : Int32) = nI 0 from rfl)).trans (congrArg nI (by rw [e1, if_neg hq])))) (ksS (by first | rfl | exact congrArg (fun z => some (Value.int z)) ((kn_add rfl (show (1 : Int32) = nI 1 from rfl)).trans (congrArg nI (by rw [e1, if_pos hq]))) | exact congrArg (fun z => some (Value.int z)) ((kn_add rfl (show (0 : Int32) = nI 0 from rfl)).trans (congrArg nI (by rw [e1, if_neg hq])))) ksN)))))))))
                  · exact absurd (Int32.le_refl (nI 3)) h26
                · have e1 : kAlA g (kCarOf g a 0) (kCarOf g b 1) (m + 1) = kAlA g (kCarOf g a 0) (kCarOf g b 1) m + (if ¬ g (40 + 8 * (kCarOf g a 0) + (5 + m)) < 0 ∧ g (40 + 8 * (kCarOf g a 0) + (5 + m)) = g (40 + 8 * (kCarOf g b 1) + (5 + m)) then 1 else 0) := rfl
                  refine kv_iload dX12_areTied_39 rfl ?_
                  refine kv_iconst dX12_areTied_41 3 ki_3 ?_
                  refine kv_icmp_ge dX12_areTied_42 97 (by decide) (fun h89 => ?_) (fun h89 => ?_)
                  · exact absurd h89 (kn_ge (n := 3) hm (by omega))
                  · refine kv_iload dX12_areTied_45 rfl ?_
                    refine kv_aload_n dX12_areTied_47 rfl ?_
                    refine kv_iload dX12_areTied_48 rfl ?_
                    refine kv_iconst dX12_areTied_50 5 ki_5 ?_
                    refine kv_iload dX12_areTied_51 rfl ?_
                    refine kv_iadd dX12_areTied_53 ?_
                    rw [show (5 + nI m : Int32) = nI (5 + m) from kn_add (show (5 : Int32) = nI 5 from rfl) rfl]
                    refine kw_Vi [_, _] mX12_car dX12_areTied_54 lX12_89 wX12_car kC12 hu rfl (by first | rfl | assumption) rfl rfl rfl (by first | exact gX12_car hu eg (kCarOf g a 0) (5 + m) (by omega) (by omega) | exact gX12_car hu eg (kCarOf g a 1) (5 + m) (by omega) (by omega) ) (by decide) ?_
                    refine kv_if_lt dX12_areTied_57 87 (by decide) (fun h90 => ?_) (fun h90 => ?_)
                    · have hq : ¬ (¬ g (40 + 8 * (kCarOf g a 0) + (5 + m)) < 0 ∧ g (40 + 8 * (kCarOf g a 0) + (5 + m)) = g (40 + 8 * (kCarOf g b 1) + (5 + m))) := fun q => q.1 h90
                      refine kv_iconst dX12_areTied_87 0 ki_0 ?_
                      refine kv_iadd dX12_areTied_88 ?_
                      refine kv_istore (ls2 := [_, _, _, _, _, _, _, _, _]) dX12_areTied_89 rfl rfl rfl rfl ?_
                      refine kv_iinc (ls2 := [_, _, _, _, _, _, _, _, _]) dX12_areTied_91 (nI (m + 1)) rfl (kv_inc1 m) rfl rfl rfl rfl ?_
                      refine kv_goto dX12_areTied_94 39 (by decide) ?_
                      exact KV.loc ih (ksS (by first | rfl | exact congrArg (fun z => some (Value.int z)) ((kn_add rfl (show (1 : Int32) = nI 1 from rfl)).trans (congrArg nI (by rw [e1, if_pos hq]))) | exact congrArg (fun z => some (Value.int z)) ((kn_add rfl (show (0 : Int32) = nI 0 from rfl)).trans (congrArg nI (by rw [e1, if_neg hq])))) (ksS (by first | rfl | exact congrArg (fun z => some (Value.int z)) ((kn_add rfl (show (1 : Int32) = nI 1 from rfl)).trans (congrArg nI (by rw [e1, if_pos hq]))) | exact congrArg (fun z => some (Value.int z)) ((kn_add rfl (show (0 : Int32) = nI 0 from rfl)).trans (congrArg nI (by rw [e1, if_neg hq])))) (ksS (by first | rfl | exact congrArg (fun z => some (Value.int z)) ((kn_add rfl (show (1 : Int32) = nI 1 from rfl)).trans (congrArg nI (by rw [e1, if_pos hq]))) | exact congrArg (fun z => some (Value.int z)) ((kn_add rfl (show (0 : Int32) = nI 0 from rfl)).trans (congrArg nI (by rw [e1, if_neg hq])))) (ksS (by first | rfl | exact congrArg (fun z => some (Value.int z)) ((kn_add rfl (show (1 : Int32) = nI 1 from rfl)).trans (congrArg nI (by rw [e1, if_pos hq]))) | exact congrArg (fun z => some (Value.int z)) ((kn_add rfl (show (0 : Int32) = nI 0 from rfl)).trans (congrArg nI (by rw [e1, if_neg hq])))) (ksS (by first | rfl | exact congrArg (fun z => some (Value.int z)) ((kn_add rfl (show (1 : Int32) = nI 1 from rfl)).trans (congrArg nI (by rw [e1, if_pos hq]))) | exact congrArg (fun z => some (Value.int z)) ((kn_add rfl (show (0 : Int32) = nI 0 from rfl)).trans (congrArg nI (by rw [e1, if_neg hq])))) (ksS (by first | rfl | exact congrArg (fun z => some (Value.int z)) ((kn_add rfl (show (1 : Int32) = nI 1 from rfl)).trans (congrArg nI (by rw [e1, if_pos hq]))) | exact congrArg (fun z => some (Value.int z)) ((kn_add rfl (show (0 : Int32) = nI 0 from rfl)).trans (congrArg nI (by rw [e1, if_neg hq])))) (ksS (by first | rfl | exact congrArg (fun z => some (Value.int z)) ((kn_add rfl (show (1 : Int32) = nI 1 from rfl)).trans (congrArg nI (by rw [e1, if_pos hq]))) | exact congrArg (fun z => some (Value.int z)) ((kn_add rfl (show (0 : Int32) = nI 0 from rfl)).trans (congrArg nI (by rw [e1, if_neg hq])))) (ksS (by first | rfl | exact congrArg (fun z => some (Value.int z)) ((kn_add rfl (show (1 : Int32) = nI 1 from rfl)).trans (congrArg nI (by rw [e1, if_pos hq]))) | exact congrArg (fun z => some (Value.int z)) ((kn_add rfl (show (0 : Int32) = nI 0 from rfl)).trans (congrArg nI (by rw [e1, if_neg hq])))) (ksS (by first | rfl | exact congrArg (fun z => some (Value.int z)) ((kn_add rfl (show (1 : Int32) = nI 1 from rfl)).trans (congrArg nI (by rw [e1, if_pos hq]))) | exact congrArg (fun z => some (Value.int z)) ((kn_add rfl (show (0 : Int32) = nI 0 from rfl)).trans (congrArg nI (by rw [e1, if_neg hq])))) ksN)))))))))
                    · have h0 := h90
                      refine kv_aload_n dX12_areTied_60 rfl ?_
                      refine kv_iload dX12_areTied_61 rfl ?_
                      refine kv_iconst dX12_areTied_63 5 ki_5 ?_
                      refine kv_iload dX12_areTied_64 rfl ?_
                      refine kv_iadd dX12_areTied_66 ?_
                      rw [show (5 + nI m : Int32) = nI (5 + m) from kn_add (show (5 : Int32) = nI 5 from rfl) rfl]
                      refine kw_Vi [_, _] mX12_car dX12_areTied_67 lX12_89 wX12_car kC12 hu rfl (by first | rfl | assumption) rfl rfl rfl (by first | exact gX12_car hu eg (kCarOf g a 0) (5 + m) (by omega) (by omega) | exact gX12_car hu eg (kCarOf g a 1) (5 + m) (by omega) (by omega) ) (by decide) ?_
                      refine kv_aload_n dX12_areTied_70 rfl ?_
                      refine kv_iload dX12_areTied_71 rfl ?_
                      refine kv_iconst dX12_areTied_73 5 ki_5 ?_
                      refine kv_iload dX12_areTied_74 rfl ?_
                      refine kv_iadd dX12_areTied_76 ?_
                      rw [show (5 + nI m : Int32) = nI (5 + m) from kn_add (show (5 : Int32) = nI 5 from rfl) rfl]
                      refine kw_Vi [_, _] mX12_car dX12_areTied_77 lX12_89 wX12_car kC12 hu rfl (by first | rfl | assumption) rfl rfl rfl (by first | exact gX12_car hu eg (kCarOf g b 0) (5 + m) (by omega) (by omega) | exact gX12_car hu eg (kCarOf g b 1) (5 + m) (by omega) (by omega) ) (by decide) ?_
                      refine kv_icmp_ne dX12_areTied_80 87 (by decide) (fun h91 => ?_) (fun h91 => ?_)
                      · have hq : ¬ (¬ g (40 + 8 * (kCarOf g a 0) + (5 + m)) < 0 ∧ g (40 + 8 * (kCarOf g a 0) + (5 + m)) = g (40 + 8 * (kCarOf g b 1) + (5 + m))) := fun q => h91 q.2
                        refine kv_iconst dX12_areTied_87 0 ki_0 ?_
                        refine kv_iadd dX12_areTied_88 ?_
                        refine kv_istore (ls2 := [_, _, _, _, _, _, _, _, _]) dX12_areTied_89 rfl rfl rfl rfl ?_
                        refine kv_iinc (ls2 := [_, _, _, _, _, _, _, _, _]) dX12_areTied_91 (nI (m + 1)) rfl (kv_inc1 m) rfl rfl rfl rfl ?_
                        refine kv_goto dX12_areTied_94 39 (by decide) ?_
                        exact KV.loc ih (ksS (by first | rfl | exact congrArg (fun z => some (Value.int z)) ((kn_add rfl (show (1 : Int32) = nI 1 from rfl)).trans (congrArg nI (by rw [e1, if_pos hq]))) | exact congrArg (fun z => some (Value.int z)) ((kn_add rfl (show (0 : Int32) = nI 0 from rfl)).trans (congrArg nI (by rw [e1, if_neg hq])))) (ksS (by first | rfl | exact congrArg (fun z => some (Value.int z)) ((kn_add rfl (show (1 : Int32) = nI 1 from rfl)).trans (congrArg nI (by rw [e1, if_pos hq]))) | exact congrArg (fun z => some (Value.int z)) ((kn_add rfl (show (0 : Int32) = nI 0 from rfl)).trans (congrArg nI (by rw [e1, if_neg hq])))) (ksS (by first | rfl | exact congrArg (fun z => some (Value.int z)) ((kn_add rfl (show (1 : Int32) = nI 1 from rfl)).trans (congrArg nI (by rw [e1, if_pos hq]))) | exact congrArg (fun z => some (Value.int z)) ((kn_add rfl (show (0 : Int32) = nI 0 from rfl)).trans (congrArg nI (by rw [e1, if_neg hq])))) (ksS (by first | rfl | exact congrArg (fun z => some (Value.int z)) ((kn_add rfl (show (1 : Int32) = nI 1 from rfl)).trans (congrArg nI (by rw [e1, if_pos hq]))) | exact congrArg (fun z => some (Value.int z)) ((kn_add rfl (show (0 : Int32) = nI 0 from rfl)).trans (congrArg nI (by rw [e1, if_neg hq])))) (ksS (by first | rfl | exact congrArg (fun z => some (Value.int z)) ((kn_add rfl (show (1 : Int32) = nI 1 from rfl)).trans (congrArg nI (by rw [e1, if_pos hq]))) | exact congrArg (fun z => some (Value.int z)) ((kn_add rfl (show (0 : Int32) = nI 0 from rfl)).trans (congrArg nI (by rw [e1, if_neg hq])))) (ksS (by first | rfl | exact congrArg (fun z => some (Value.int z)) ((kn_add rfl (show (1 : Int32) = nI 1 from rfl)).trans (congrArg nI (by rw [e1, if_pos hq]))) | exact congrArg (fun z => some (Value.int z)) ((kn_add rfl (show (0 : Int32) = nI 0 from rfl)).trans (congrArg nI (by rw [e1, if_neg hq])))) (ksS (by first | rfl | exact congrArg (fun z => some (Value.int z)) ((kn_add rfl (show (1 : Int32) = nI 1 from rfl)).trans (congrArg nI (by rw [e1, if_pos hq]))) | exact congrArg (fun z => some (Value.int z)) ((kn_add rfl (show (0 : Int32) = nI 0 from rfl)).trans (congrArg nI (by rw [e1, if_neg hq])))) (ksS (by first | rfl | exact congrArg (fun z => some (Value.int z)) ((kn_add rfl (show (1 : Int32) = nI 1 from rfl)).trans (congrArg nI (by rw [e1, if_pos hq]))) | exact congrArg (fun z => some (Value.int z)) ((kn_add rfl (show (0 : Int32) = nI 0 from rfl)).trans (congrArg nI (by rw [e1, if_neg hq])))) (ksS (by first | rfl | exact congrArg (fun z => some (Value.int z)) ((kn_add rfl (show (1 : Int32) = nI 1 from rfl)).trans (congrArg nI (by rw [e1, if_pos hq]))) | exact congrArg (fun z => some (Value.int z)) ((kn_add rfl (show (0 : Int32) = nI 0 from rfl)).trans (congrArg nI (by rw [e1, if_neg hq])))) ksN)))))))))
                      · have hq : ¬ g (40 + 8 * (kCarOf g a 0) + (5 + m)) < 0 ∧ g (40 + 8 * (kCarOf g a 0) + (5 + m)) = g (40 + 8 * (kCarOf g b 1) + (5 + m)) := ⟨h0, h91⟩
                        refine kv_iconst dX12_areTied_83 1 ki_1 ?_
                        refine kv_goto dX12_areTied_84 88 (by decide) ?_
                        refine kv_iadd dX12_areTied_88 ?_
                        refine kv_istore (ls2 := [_, _, _, _, _, _, _, _, _]) dX12_areTied_89 rfl rfl rfl rfl ?_
                        refine kv_iinc (ls2 := [_, _, _, _, _, _, _, _, _]) dX12_areTied_91 (nI (m + 1)) rfl (kv_inc1 m) rfl rfl rfl rfl ?_
                        refine kv_goto dX12_areTied_94 39 (by decide) ?_
                        exact KV.loc ih (ksS (by first | rfl | exact congrArg (fun z => some (Value.int z)) ((kn_add rfl (show (1 : Int32) = nI 1 from rfl)).trans (congrArg nI (by rw [e1, if_pos hq]))) | exact congrArg (fun z => some (Value.int z)) ((kn_add rfl (show (0 : Int32) = nI 0 from rfl)).trans (congrArg nI (by rw [e1, if_neg hq])))) (ksS (by first | rfl | exact congrArg (fun z => some (Value.int z)) ((kn_add rfl (show (1 : Int32) = nI 1 from rfl)).trans (congrArg nI (by rw [e1, if_pos hq]))) | exact congrArg (fun z => some (Value.int z)) ((kn_add rfl (show (0 : Int32) = nI 0 from rfl)).trans (congrArg nI (by rw [e1, if_neg hq])))) (ksS (by first | rfl | exact congrArg (fun z => some (Value.int z)) ((kn_add rfl (show (1 : Int32) = nI 1 from rfl)).trans (congrArg nI (by rw [e1, if_pos hq]))) | exact congrArg (fun z => some (Value.int z)) ((kn_add rfl (show (0 : Int32) = nI 0 from rfl)).trans (congrArg nI (by rw [e1, if_neg hq])))) (ksS (by first | rfl | exact congrArg (fun z => some (Value.int z)) ((kn_add rfl (show (1 : Int32) = nI 1 from rfl)).trans (congrArg nI (by rw [e1, if_pos hq]))) | exact congrArg (fun z => some (Value.int z)) ((kn_add rfl (show (0 : Int32) = nI 0 from rfl)).trans (congrArg nI (by rw [e1, if_neg hq])))) (ksS (by first | rfl | exact congrArg (fun z => some (Value.int z)) ((kn_add rfl (show (1 : Int32) = nI 1 from rfl)).trans (congrArg nI (by rw [e1, if_pos hq]))) | exact congrArg (fun z => some (Value.int z)) ((kn_add rfl (show (0 : Int32) = nI 0 from rfl)).trans (congrArg nI (by rw [e1, if_neg hq])))) (ksS (by first | rfl | exact congrArg (fun z => some (Value.int z)) ((kn_add rfl (show (1 : Int32) = nI 1 from rfl)).trans (congrArg nI (by rw [e1, if_pos hq]))) | exact congrArg (fun z => some (Value.int z)) ((kn_add rfl (show (0 : Int32) = nI 0 from rfl)).trans (congrArg nI (by rw [e1, if_neg hq])))) (ksS (by first | rfl | exact congrArg (fun z => some (Value.int z)) ((kn_add rfl (show (1 : Int32) = nI 1 from rfl)).trans (congrArg nI (by rw [e1, if_pos hq]))) | exact congrArg (fun z => some (Value.int z)) ((kn_add rfl (show (0 : Int32) = nI 0 from rfl)).trans (congrArg nI (by rw [e1, if_neg hq])))) (ksS (by first | rfl | exact congrArg (fun z => some (Value.int z)) ((kn_add rfl (show (1 : Int32) = nI 1 from rfl)).trans (congrArg nI (by rw [e1, if_pos hq]))) | exact congrArg (fun z => some (Value.int z)) ((kn_add rfl (show (0 : Int32) = nI 0 from rfl)).trans (congrArg nI (by rw [e1, if_neg hq])))) (ksS (by first | rfl | exact congrArg (fun z => some (Value.int z)) ((kn_add rfl (show (1 : Int32) = nI 1 from rfl)).trans (congrArg nI (by rw [e1, if_pos hq]))) | exact congrArg (fun z => some (Value.int z)) ((kn_add rfl (show (0 : Int32) = nI 0 from rfl)).trans (congrArg nI (by rw [e1, if_neg hq])))) ksN)))))))))
            · have E2 : 2 ≤ kAlA g (kCarOf g a 0) (kCarOf g b 0) 3 := Nat.lt_of_not_le (fun q => h24 (nI_le (b := 1) q (by omega)))
              have H : kTie g a b := by
                first
                | exact Or.inl (Or.inr E2)
                | exact Or.inr (Or.inl (Or.inr E2))
                | exact Or.inr (Or.inr (Or.inl (Or.inr E2)))
                | exact Or.inr (Or.inr (Or.inr (Or.inr E2)))
              refine kv_iconst dX12_areTied_114 1 ki_1 ?_
              refine kv_goto dX12_areTied_115 119 (by decide) ?_
              refine kv_istore_n (ls2 := [_, _, _, _, _, _, _, _, _]) dX12_areTied_119 rfl rfl rfl rfl ?_
              refine kv_iinc (ls2 := [_, _, _, _, _, _, _, _, _]) dX12_areTied_120 (1 : Int32) rfl rfl rfl rfl rfl rfl ?_
              refine kv_goto dX12_areTied_123 5 (by decide) ?_
              refine kv_iload dX12_areTied_5 rfl ?_
              refine kv_iconst dX12_areTied_7 4 ki_4 ?_
              refine kv_icmp_ge dX12_areTied_8 126 (by decide) (fun h92 => ?_) (fun h92 => ?_)
              · exact absurd h92 (by decide)
              · refine kv_aload_n dX12_areTied_11 rfl ?_
                refine kv_iload_n dX12_areTied_12 rfl ?_
                refine kv_iload dX12_areTied_13 rfl ?_
                refine kv_iconst dX12_areTied_15 2 ki_2 ?_
                refine kv_idiv dX12_areTied_16 (by decide) ?_
                rw [show ((1 : Int32) / 2) = 0 from rfl]
                refine kw_Vi [_, _] mX12_carOf dX12_areTied_17 lX12_116 wX12_carOf kC12 hu rfl (by first | rfl | assumption) rfl rfl rfl (gX12_carOf hu eg a 0 (by omega) (by omega)) (by decide) ?_
                first | rw [ca0.1] | rw [ca1.1]
                refine kv_istore (ls2 := [_, _, _, _, _, _, _, _, _]) dX12_areTied_20 rfl rfl rfl rfl ?_
                refine kv_aload_n dX12_areTied_22 rfl ?_
                refine kv_iload_n dX12_areTied_23 rfl ?_
                refine kv_iload dX12_areTied_24 rfl ?_
                refine kv_iconst dX12_areTied_26 2 ki_2 ?_
                refine kv_irem dX12_areTied_27 (by decide) ?_
                rw [show ((1 : Int32) - 1 / 2 * 2) = 1 from rfl]
                refine kw_Vi [_, _] mX12_carOf dX12_areTied_28 lX12_116 wX12_carOf kC12 hu rfl (by first | rfl | assumption) rfl rfl rfl (gX12_carOf hu eg b 1 (by omega) (by omega)) (by decide) ?_
                first | rw [cb0.1] | rw [cb1.1]
                refine kv_istore (ls2 := [_, _, _, _, _, _, _, _, _]) dX12_areTied_31 rfl rfl rfl rfl ?_
                refine kv_iconst dX12_areTied_33 0 ki_0 ?_
                refine kv_istore (ls2 := [_, _, _, _, _, _, _, _, _]) dX12_areTied_34 rfl rfl rfl rfl ?_
                refine kv_iconst dX12_areTied_36 0 ki_0 ?_
                refine kv_istore (ls2 := [_, _, _, _, _, _, _, _, _]) dX12_areTied_37 rfl rfl rfl rfl ?_
                refine KV.loc (ls2 := [some (.ref 413), some (.int (nI a)), some (.int (nI b)), some (.int 1), some (.int 1), some (.int (nI (kCarOf g a 0))), some (.int (nI (kCarOf g b 1))), some (.int (nI (kAlA g (kCarOf g a 0) (kCarOf g b 1) (0)))), some (.int (nI (0)))]) ?_ (ksS rfl (ksS rfl (ksS rfl (ksS rfl (ksS rfl (ksS rfl (ksS rfl (ksS rfl (ksS rfl ksN)))))))))
                refine kn_loop (P := fun m => KV w l mX12_areTied 2 0 0 39 [some (.ref 413), some (.int (nI a)), some (.int (nI b)), some (.int 1), some (.int 1), some (.int (nI (kCarOf g a 0))), some (.int (nI (kCarOf g b 1))), some (.int (nI (kAlA g (kCarOf g a 0) (kCarOf g b 1) (m)))), some (.int (nI (m)))] [] u (kq (some (.int (if kTie g a b then 1 else 0))) u)) (3) ?_ (fun m hm ih => ?_)
                · refine kv_iload dX12_areTied_39 rfl ?_
                  refine kv_iconst dX12_areTied_41 3 ki_3 ?_
                  refine kv_icmp_ge dX12_areTied_42 97 (by decide) (fun h93 => ?_) (fun h93 => ?_)
                  · refine kv_iload_n dX12_areTied_97 rfl ?_
                    refine kv_if_ne dX12_areTied_98 114 (by decide) (fun h94 => ?_) (fun h94 => ?_)
                    · refine kv_iconst dX12_areTied_114 1 ki_1 ?_
                      refine kv_goto dX12_areTied_115 119 (by decide) ?_
                      refine kv_istore_n (ls2 := [_, _, _, _, _, _, _, _, _]) dX12_areTied_119 rfl rfl rfl rfl ?_
                      refine kv_iinc (ls2 := [_, _, _, _, _, _, _, _, _]) dX12_areTied_120 (2 : Int32) rfl rfl rfl rfl rfl rfl ?_
                      refine kv_goto dX12_areTied_123 5 (by decide) ?_
                      refine kv_iload dX12_areTied_5 rfl ?_
                      refine kv_iconst dX12_areTied_7 4 ki_4 ?_
                      refine kv_icmp_ge dX12_areTied_8 126 (by decide) (fun h95 => ?_) (fun h95 => ?_)
                      · exact absurd h95 (by decide)
                      · refine kv_aload_n dX12_areTied_11 rfl ?_
                        refine kv_iload_n dX12_areTied_12 rfl ?_
                        refine kv_iload dX12_areTied_13 rfl ?_
                        refine kv_iconst dX12_areTied_15 2 ki_2 ?_
                        refine kv_idiv dX12_areTied_16 (by decide) ?_
                        rw [show ((2 : Int32) / 2) = 1 from rfl]
                        refine kw_Vi [_, _] mX12_carOf dX12_areTied_17 lX12_116 wX12_carOf kC12 hu rfl (by first | rfl | assumption) rfl rfl rfl (gX12_carOf hu eg a 1 (by omega) (by omega)) (by decide) ?_
                        first | rw [ca0.1] | rw [ca1.1]
                        refine kv_istore (ls2 := [_, _, _, _, _, _, _, _, _]) dX12_areTied_20 rfl rfl rfl rfl ?_
                        refine kv_aload_n dX12_areTied_22 rfl ?_
                        refine kv_iload_n dX12_areTied_23 rfl ?_
                        refine kv_iload dX12_areTied_24 rfl ?_
                        refine kv_iconst dX12_areTied_26 2 ki_2 ?_
                        refine kv_irem dX12_areTied_27 (by decide) ?_
                        rw [show ((2 : Int32) - 2 / 2 * 2) = 0 from rfl]
                        refine kw_Vi [_, _] mX12_carOf dX12_areTied_28 lX12_116 wX12_carOf kC12 hu rfl (by first | rfl | assumption) rfl rfl rfl (gX12_carOf hu eg b 0 (by omega) (by omega)) (by decide) ?_
                        first | rw [cb0.1] | rw [cb1.1]
                        refine kv_istore (ls2 := [_, _, _, _, _, _, _, _, _]) dX12_areTied_31 rfl rfl rfl rfl ?_
                        refine kv_iconst dX12_areTied_33 0 ki_0 ?_
                        refine kv_istore (ls2 := [_, _, _, _, _, _, _, _, _]) dX12_areTied_34 rfl rfl rfl rfl ?_
                        refine kv_iconst dX12_areTied_36 0 ki_0 ?_
                        refine kv_istore (ls2 := [_, _, _, _, _, _, _, _, _]) dX12_areTied_37 rfl rfl rfl rfl ?_
                        refine KV.loc (ls2 := [some (.ref 413), some (.int (nI a)), some (.int (nI b)), some (.int 1), some (.int 2), some (.int (nI (kCarOf g a 1))), some (.int (nI (kCarOf g b 0))), some (.int (nI (kAlA g (kCarOf g a 1) (kCarOf g b 0) (0)))), some (.int (nI (0)))]) ?_ (ksS rfl (ksS rfl (ksS rfl (ksS rfl (ksS rfl (ksS rfl (ksS rfl (ksS rfl (ksS rfl ksN)))))))))
                        refine kn_loop (P := fun m => KV w l mX12_areTied 2 0 0 39 [some (.ref 413), some (.int (nI a)), some (.int (nI b)), some (.int 1), some (.int 2), some (.int (nI (kCarOf g a 1))), some (.int (nI (kCarOf g b 0))), some (.int (nI (kAlA g (kCarOf g a 1) (kCarOf g b 0) (m)))), some (.int (nI (m)))] [] u (kq (some (.int (if kTie g a b then 1 else 0))) u)) (3) ?_ (fun m hm ih => ?_)
                        · refine kv_iload dX12_areTied_39 rfl ?_
                          refine kv_iconst dX12_areTied_41 3 ki_3 ?_
                          refine kv_icmp_ge dX12_areTied_42 97 (by decide) (fun h96 => ?_) (fun h96 => ?_)
                          · refine kv_iload_n dX12_areTied_97 rfl ?_
                            refine kv_if_ne dX12_areTied_98 114 (by decide) (fun h97 => ?_) (fun h97 => ?_)
                            · refine kv_iconst dX12_areTied_114 1 ki_1 ?_
                              refine kv_goto dX12_areTied_115 119 (by decide) ?_
                              refine kv_istore_n (ls2 := [_, _, _, _, _, _, _, _, _]) dX12_areTied_119 rfl rfl rfl rfl ?_
                              refine kv_iinc (ls2 := [_, _, _, _, _, _, _, _, _]) dX12_areTied_120 (3 : Int32) rfl rfl rfl rfl rfl rfl ?_
                              refine kv_goto dX12_areTied_123 5 (by decide) ?_
                              refine kv_iload dX12_areTied_5 rfl ?_
                              refine kv_iconst dX12_areTied_7 4 ki_4 ?_
                              refine kv_icmp_ge dX12_areTied_8 126 (by decide) (fun h98 => ?_) (fun h98 => ?_)
                              · exact absurd h98 (by decide)
                              · refine kv_aload_n dX12_areTied_11 rfl ?_
                                refine kv_iload_n dX12_areTied_12 rfl ?_
                                refine kv_iload dX12_areTied_13 rfl ?_
                                refine kv_iconst dX12_areTied_15 2 ki_2 ?_
                                refine kv_idiv dX12_areTied_16 (by decide) ?_
                                rw [show ((3 : Int32) / 2) = 1 from rfl]
                                refine kw_Vi [_, _] mX12_carOf dX12_areTied_17 lX12_116 wX12_carOf kC12 hu rfl (by first | rfl | assumption) rfl rfl rfl (gX12_carOf hu eg a 1 (by omega) (by omega)) (by decide) ?_
                                first | rw [ca0.1] | rw [ca1.1]
                                refine kv_istore (ls2 := [_, _, _, _, _, _, _, _, _]) dX12_areTied_20 rfl rfl rfl rfl ?_
                                refine kv_aload_n dX12_areTied_22 rfl ?_
                                refine kv_iload_n dX12_areTied_23 rfl ?_
                                refine kv_iload dX12_areTied_24 rfl ?_
                                refine kv_iconst dX12_areTied_26 2 ki_2 ?_
                                refine kv_irem dX12_areTied_27 (by decide) ?_
                                rw [show ((3 : Int32) - 3 / 2 * 2) = 1 from rfl]
                                refine kw_Vi [_, _] mX12_carOf dX12_areTied_28 lX12_116 wX12_carOf kC12 hu rfl (by first | rfl | assumption) rfl rfl rfl (gX12_carOf hu eg b 1 (by omega) (by omega)) (by decide) ?_
                                first | rw [cb0.1] | rw [cb1.1]
                                refine kv_istore (ls2 := [_, _, _, _, _, _, _, _, _]) dX12_areTied_31 rfl rfl rfl rfl ?_
                                refine kv_iconst dX12_areTied_33 0 ki_0 ?_
                                refine kv_istore (ls2 := [_, _, _, _, _, _, _, _, _]) dX12_areTied_34 rfl rfl rfl rfl ?_
                                refine kv_iconst dX12_areTied_36 0 ki_0 ?_
                                refine kv_istore (ls2 := [_, _, _, _, _, _, _, _, _]) dX12_areTied_37 rfl rfl rfl rfl ?_
                                refine KV.loc (ls2 := [some (.ref 413), some (.int (nI a)), some (.int (nI b)), some (.int 1), some (.int 3), some (.int (nI (kCarOf g a 1))), some (.int (nI (kCarOf g b 1))), some (.int (nI (kAlA g (kCarOf g a 1) (kCarOf g b 1) (0)))), some (.int (nI (0)))]) ?_ (ksS rfl (ksS rfl (ksS rfl (ksS rfl (ksS rfl (ksS rfl (ksS rfl (ksS rfl (ksS rfl ksN)))))))))
                                refine kn_loop (P := fun m => KV w l mX12_areTied 2 0 0 39 [some (.ref 413), some (.int (nI a)), some (.int (nI b)), some (.int 1), some (.int 3), some (.int (nI (kCarOf g a 1))), some (.int (nI (kCarOf g b 1))), some (.int (nI (kAlA g (kCarOf g a 1) (kCarOf g b 1) (m)))), some (.int (nI (m)))] [] u (kq (some (.int (if kTie g a b then 1 else 0))) u)) (3) ?_ (fun m hm ih => ?_)
                                · refine kv_iload dX12_areTied_39 rfl ?_
                                  refine kv_iconst dX12_areTied_41 3 ki_3 ?_
                                  refine kv_icmp_ge dX12_areTied_42 97 (by decide) (fun h99 => ?_) (fun h99 => ?_)
                                  · refine kv_iload_n dX12_areTied_97 rfl ?_
                                    refine kv_if_ne dX12_areTied_98 114 (by decide) (fun h100 => ?_) (fun h100 => ?_)
                                    · refine kv_iconst dX12_areTied_114 1 ki_1 ?_
                                      refine kv_goto dX12_areTied_115 119 (by decide) ?_
                                      refine kv_istore_n (ls2 := [_, _, _, _, _, _, _, _, _]) dX12_areTied_119 rfl rfl rfl rfl ?_
                                      refine kv_iinc (ls2 := [_, _, _, _, _, _, _, _, _]) dX12_areTied_120 (4 : Int32) rfl rfl rfl rfl rfl rfl ?_
                                      refine kv_goto dX12_areTied_123 5 (by decide) ?_
                                      refine kv_iload dX12_areTied_5 rfl ?_
                                      refine kv_iconst dX12_areTied_7 4 ki_4 ?_
                                      refine kv_icmp_ge dX12_areTied_8 126 (by decide) (fun h101 => ?_) (fun h101 => ?_)
                                      · refine kv_iload_n dX12_areTied_126 rfl ?_
                                        exact kv_zret dX12_areTied_127 rfl kv_z1 (by first | exact ⟨by rw [if_pos H], rfl⟩ | exact ⟨by rw [if_neg (by rintro ((q | q) | (q | q) | (q | q) | (q | q)) <;> contradiction)], rfl⟩)
                                      · exact absurd h101 (by decide)
                                    · exact absurd h100 (by decide)
                                  · exact absurd (Int32.le_refl (nI 3)) h99
                                · have e1 : kAlA g (kCarOf g a 1) (kCarOf g b 1) (m + 1) = kAlA g (kCarOf g a 1) (kCarOf g b 1) m + (if ¬ g (40 + 8 * (kCarOf g a 1) + (5 + m)) < 0 ∧ g (40 + 8 * (kCarOf g a 1) + (5 + m)) = g (40 + 8 * (kCarOf g b 1) + (5 + m)) then 1 else 0) := rfl
                                  refine kv_iload dX12_areTied_39 rfl ?_
                                  refine kv_iconst dX12_areTied_41 3 ki_3 ?_
                                  refine kv_icmp_ge dX12_areTied_42 97 (by decide) (fun h102 => ?_) (fun h102 => ?_)
                                  · exact absurd h102 (kn_ge (n := 3) hm (by omega))
                                  · refine kv_iload dX12_areTied_45 rfl ?_
                                    refine kv_aload_n dX12_areTied_47 rfl ?_
                                    refine kv_iload dX12_areTied_48 rfl ?_
                                    refine kv_iconst dX12_areTied_50 5 ki_5 ?_
                                    refine kv_iload dX12_areTied_51 rfl ?_
                                    refine kv_iadd dX12_areTied_53 ?_
                                    rw [show (5 + nI m : Int32) = nI (5 + m) from kn_add (show (5 : Int32) = nI 5 from rfl) rfl]
                                    refine kw_Vi [_, _] mX12_car dX12_areTied_54 lX12_89 wX12_car kC12 hu rfl (by first | rfl | assumption) rfl rfl rfl (by first | exact gX12_car hu eg (kCarOf g a 0) (5 + m) (by omega) (by omega) | exact gX12_car hu eg (kCarOf g a 1) (5 + m) (by omega) (by omega) ) (by decide) ?_
                                    refine kv_if_lt dX12_areTied_57 87 (by decide) (fun h103 => ?_) (fun h103 => ?_)
                                    · have hq : ¬ (¬ g (40 + 8 * (kCarOf g a 1) + (5 + m)) < 0 ∧ g (40 + 8 * (kCarOf g a 1) + (5 + m)) = g (40 + 8 * (kCarOf g b 1) + (5 + m))) := fun q => q.1 h103
                                      refine kv_iconst dX12_areTied_87 0 ki_0 ?_
                                      refine kv_iadd dX12_areTied_88 ?_
                                      refine kv_istore (ls2 := [_, _, _, _, _, _, _, _, _]) dX12_areTied_89 rfl rfl rfl rfl ?_
                                      refine kv_iinc (ls2 := [_, _, _, _, _, _, _, _, _]) dX12_areTied_91 (nI (m + 1)) rfl (kv_inc1 m) rfl rfl rfl rfl ?_
                                      refine kv_goto dX12_areTied_94 39 (by decide) ?_
                                      exact KV.loc ih (ksS (by first | rfl | exact congrArg (fun z => some (Value.int z)) ((kn_add rfl (show (1 : Int32) = nI 1 from rfl)).trans (congrArg nI (by rw [e1, if_pos hq]))) | exact congrArg (fun z => some (Value.int z)) ((kn_add rfl (show (0 : Int32) = nI 0 from rfl)).trans (congrArg nI (by rw [e1, if_neg hq])))) (ksS (by first | rfl | exact congrArg (fun z => some (Value.int z)) ((kn_add rfl (show (1 : Int32) = nI 1 from rfl)).trans (congrArg nI (by rw [e1, if_pos hq]))) | exact congrArg (fun z => some (Value.int z)) ((kn_add rfl (show (0 : Int32) = nI 0 from rfl)).trans (congrArg nI (by rw [e1, if_neg hq])))) (ksS (by first | rfl | exact congrArg (fun z => some (Value.int z)) ((kn_add rfl (show (1 : Int32) = nI 1 from rfl)).trans (congrArg nI (by rw [e1, if_pos hq]))) | exact congrArg (fun z => some (Value.int z)) ((kn_add rfl (show (0 : Int32) = nI 0 from rfl)).trans (congrArg nI (by rw [e1, if_neg hq])))) (ksS (by first | rfl | exact congrArg (fun z => some (Value.int z)) ((kn_add rfl (show (1 : Int32) = nI 1 from rfl)).trans (congrArg nI (by rw [e1, if_pos hq]))) | exact congrArg (fun z => some (Value.int z)) ((kn_add rfl (show (0 : Int32) = nI 0 from rfl)).trans (congrArg nI (by rw [e1, if_neg hq])))) (ksS (by first | rfl | exact congrArg (fun z => some (Value.int z)) ((kn_add rfl (show (1 : Int32) = nI 1 from rfl)).trans (congrArg nI (by rw [e1, if_pos hq]))) | exact congrArg (fun z => some (Value.int z)) ((kn_add rfl (show (0 : Int32) = nI 0 from rfl)).trans (congrArg nI (by rw [e1, if_neg hq])))) (ksS (by first | rfl | exact congrArg (fun z => some (Value.int z)) ((kn_add rfl (show (1 : Int32) = nI 1 from rfl)).trans (congrArg nI (by rw [e1, if_pos hq]))) | exact congrArg (fun z => some (Value.int z)) ((kn_add rfl (show (0 : Int32) = nI 0 from rfl)).trans (congrArg nI (by rw [e1, if_neg hq])))) (ksS (by first | rfl | exact congrArg (fun z => some (Value.int z)) ((kn_add rfl (show (1 : Int32) = nI 1 from rfl)).trans (congrArg nI (by rw [e1, if_pos hq]))) | exact congrArg (fun z => some (Value.int z)) ((kn_add rfl (show (0 : Int32) = nI 0 from rfl)).trans (congrArg nI (by rw [e1, if_neg hq])))) (ksS (by first | rfl | exact congrArg (fun z => some (Value.int z)) ((kn_add rfl (show (1 : Int32) = nI 1 from rfl)).trans (congrArg nI (by rw [e1, if_pos hq]))) | exact congrArg (fun z => some (Value.int z)) ((kn_add rfl (show (0 : Int32) = nI 0 from rfl)).trans (congrArg nI (by rw [e1, if_neg hq])))) (ksS (by first | rfl | exact congrArg (fun z => some (Value.int z)) ((kn_add rfl (show (1 : Int32) = nI 1 from rfl)).trans (congrArg nI (by rw [e1, if_pos hq]))) | exact congrArg (fun z => some (Value.int z)) ((kn_add rfl (show (0 : Int32) = nI 0 from rfl)).trans (congrArg nI (by rw [e1, if_neg hq])))) ksN)))))))))
                                    · have h0 := h103
                                      refine kv_aload_n dX12_areTied_60 rfl ?_
                                      refine kv_iload dX12_areTied_61 rfl ?_
                                      refine kv_iconst dX12_areTied_63 5 ki_5 ?_
                                      refine kv_iload dX12_areTied_64 rfl ?_
                                      refine kv_iadd dX12_areTied_66 ?_
                                      rw [show (5 + nI m : Int32) = nI (5 + m) from kn_add (show (5 : Int32) = nI 5 from rfl) rfl]
                                      refine kw_Vi [_, _] mX12_car dX12_areTied_67 lX12_89 wX12_car kC12 hu rfl (by first | rfl | assumption) rfl rfl rfl (by first | exact gX12_car hu eg (kCarOf g a 0) (5 + m) (by omega) (by omega) | exact gX12_car hu eg (kCarOf g a 1) (5 + m) (by omega) (by omega) ) (by decide) ?_
                                      refine kv_aload_n dX12_areTied_70 rfl ?_
                                      refine kv_iload dX12_areTied_71 rfl ?_
                                      refine kv_iconst dX12_areTied_73 5 ki_5 ?_
                                      refine kv_iload dX12_areTied_74 rfl ?_
                                      refine kv_iadd dX12_areTied_76 ?_
                                      rw [show (5 + nI m : Int32) = nI (5 + m) from kn_add (show (5 : Int32) = nI 5 from rfl) rfl]
                                      refine kw_Vi [_, _] mX12_car dX12_areTied_77 lX12_89 wX12_car kC12 hu rfl (by first | rfl | assumption) rfl rfl rfl (by first | exact gX12_car hu eg (kCarOf g b 0) (5 + m) (by omega) (by omega) | exact gX12_car hu eg (kCarOf g b 1) (5 + m) (by omega) (by omega) ) (by decide) ?_
                                      refine kv_icmp_ne dX12_areTied_80 87 (by decide) (fun h104 => ?_) (fun h104 => ?_)
                                      · have hq : ¬ (¬ g (40 + 8 * (kCarOf g a 1) + (5 + m)) < 0 ∧ g (40 + 8 * (kCarOf g a 1) + (5 + m)) = g (40 + 8 * (kCarOf g b 1) + (5 + m))) := fun q => h104 q.2
                                        refine kv_iconst dX12_areTied_87 0 ki_0 ?_
                                        refine kv_iadd dX12_areTied_88 ?_
                                        refine kv_istore (ls2 := [_, _, _, _, _, _, _, _, _]) dX12_areTied_89 rfl rfl rfl rfl ?_
                                        refine kv_iinc (ls2 := [_, _, _, _, _, _, _, _, _]) dX12_areTied_91 (nI (m + 1)) rfl (kv_inc1 m) rfl rfl rfl rfl ?_
                                        refine kv_goto dX12_areTied_94 39 (by decide) ?_
                                        exact KV.loc ih (ksS (by first | rfl | exact congrArg (fun z => some (Value.int z)) ((kn_add rfl (show (1 : Int32) = nI 1 from rfl)).trans (congrArg nI (by rw [e1, if_pos hq]))) | exact congrArg (fun z => some (Value.int z)) ((kn_add rfl (show (0 : Int32) = nI 0 from rfl)).trans (congrArg nI (by rw [e1, if_neg hq])))) (ksS (by first | rfl | exact congrArg (fun z => some (Value.int z)) ((kn_add rfl (show (1 : Int32) = nI 1 from rfl)).trans (congrArg nI (by rw [e1, if_pos hq]))) | exact congrArg (fun z => some (Value.int z)) ((kn_add rfl (show (0 : Int32) = nI 0 from rfl)).trans (congrArg nI (by rw [e1, if_neg hq])))) (ksS (by first | rfl | exact congrArg (fun z => some (Value.int z)) ((kn_add rfl (show (1 : Int32) = nI 1 from rfl)).trans (congrArg nI (by rw [e1, if_pos hq]))) | exact congrArg (fun z => some (Value.int z)) ((kn_add rfl (show (0 : Int32) = nI 0 from rfl)).trans (congrArg nI (by rw [e1, if_neg hq])))) (ksS (by first | rfl | exact congrArg (fun z => some (Value.int z)) ((kn_add rfl (show (1 : Int32) = nI 1 from rfl)).trans (congrArg nI (by rw [e1, if_pos hq]))) | exact congrArg (fun z => some (Value.int z)) ((kn_add rfl (show (0 : Int32) = nI 0 from rfl)).trans (congrArg nI (by rw [e1, if_neg hq])))) (ksS (by first | rfl | exact congrArg (fun z => some (Value.int z)) ((kn_add rfl (show (1 : Int32) = nI 1 from rfl)).trans (congrArg nI (by rw [e1, if_pos hq]))) | exact congrArg (fun z => some (Value.int z)) ((kn_add rfl (show (0 : Int32) = nI 0 from rfl)).trans (congrArg nI (by rw [e1, if_neg hq])))) (ksS (by first | rfl | exact congrArg (fun z => some (Value.int z)) ((kn_add rfl (show (1 : Int32) = nI 1 from rfl)).trans (congrArg nI (by rw [e1, if_pos hq]))) | exact congrArg (fun z => some (Value.int z)) ((kn_add rfl (show (0 : Int32) = nI 0 from rfl)).trans (congrArg nI (by rw [e1, if_neg hq])))) (ksS (by first | rfl | exact congrArg (fun z => some (Value.int z)) ((kn_add rfl (show (1 : Int32) = nI 1 from rfl)).trans (congrArg nI (by rw [e1, if_pos hq]))) | exact congrArg (fun z => some (Value.int z)) ((kn_add rfl (show (0 : Int32) = nI 0 from rfl)).trans (congrArg nI (by rw [e1, if_neg hq])))) (ksS (by first | rfl | exact congrArg (fun z => some (Value.int z)) ((kn_add rfl (show (1 : Int32) = nI 1 from rfl)).trans (congrArg nI (by rw [e1, if_pos hq]))) | exact congrArg (fun z => some (Value.int z)) ((kn_add rfl (show (0 : Int32) = nI 0 from rfl)).trans (congrArg nI (by rw [e1, if_neg hq])))) (ksS (by first | rfl | exact congrArg (fun z => some (Value.int z)) ((kn_add rfl (show (1 : Int32) = nI 1 from rfl)).trans (congrArg nI (by rw [e1, if_pos hq]))) | exact congrArg (fun z => some (Value.int z)) ((kn_add rfl (show (0 : Int32) = nI 0 from rfl)).trans (congrArg nI (by rw [e1, if_neg hq])))) ksN)))))))))
                                      · have hq : ¬ g (40 + 8 * (kCarOf g a 1) + (5 + m)) < 0 ∧ g (40 + 8 * (kCarOf g a 1) + (5 + m)) = g (40 + 8 * (kCarOf g b 1) + (5 + m)) := ⟨h0, h104⟩
                                        refine kv_iconst dX12_areTied_83 1 ki_1 ?_
                                        refine kv_goto dX12_areTied_84 88 (by decide) ?_
                                        refine kv_iadd dX12_areTied_88 ?_
                                        refine kv_istore (ls2 := [_, _, _, _, _, _, _, _, _]) dX12_areTied_89 rfl rfl rfl rfl ?_
                                        refine kv_iinc (ls2 := [_, _, _, _, _, _, _, _, _]) dX12_areTied_91 (nI (m + 1)) rfl (kv_inc1 m) rfl rfl rfl rfl ?_
                                        refine kv_goto dX12_areTied_94 39 (by decide) ?_
                                        exact KV.loc ih (ksS (by first | rfl | exact congrArg (fun z => some (Value.int z)) ((kn_add rfl (show (1 : Int32) = nI 1 from rfl)).trans (congrArg nI (by rw [e1, if_pos hq]))) | exact congrArg (fun z => some (Value.int z)) ((kn_add rfl (show (0 : Int32) = nI 0 from rfl)).trans (congrArg nI (by rw [e1, if_neg hq])))) (ksS (by first | rfl | exact congrArg (fun z => some (Value.int z)) ((kn_add rfl (show (1 : Int32) = nI 1 from rfl)).trans (congrArg nI (by rw [e1, if_pos hq]))) | exact congrArg (fun z => some (Value.int z)) ((kn_add rfl (show (0 : Int32) = nI 0 from rfl)).trans (congrArg nI (by rw [e1, if_neg hq])))) (ksS (by first | rfl | exact congrArg (fun z => some (Value.int z)) ((kn_add rfl (show (1 : Int32) = nI 1 from rfl)).trans (congrArg nI (by rw [e1, if_pos hq]))) | exact congrArg (fun z => some (Value.int z)) ((kn_add rfl (show (0 : Int32) = nI 0 from rfl)).trans (congrArg nI (by rw [e1, if_neg hq])))) (ksS (by first | rfl | exact congrArg (fun z => some (Value.int z)) ((kn_add rfl (show (1 : Int32) = nI 1 from rfl)).trans (congrArg nI (by rw [e1, if_pos hq]))) | exact congrArg (fun z => some (Value.int z)) ((kn_add rfl (show (0 : Int32) = nI 0 from rfl)).trans (congrArg nI (by rw [e1, if_neg hq])))) (ksS (by first | rfl | exact congrArg (fun z => some (Value.int z)) ((kn_add rfl (show (1 : Int32) = nI 1 from rfl)).trans (congrArg nI (by rw [e1, if_pos hq]))) | exact congrArg (fun z => some (Value.int z)) ((kn_add rfl (show (0 : Int32) = nI 0 from rfl)).trans (congrArg nI (by rw [e1, if_neg hq])))) (ksS (by first | rfl | exact congrArg (fun z => some (Value.int z)) ((kn_add rfl (show (1 : Int32) = nI 1 from rfl)).trans (congrArg nI (by rw [e1, if_pos hq]))) | exact congrArg (fun z => some (Value.int z)) ((kn_add rfl (show (0 : Int32) = nI 0 from rfl)).trans (congrArg nI (by rw [e1, if_neg hq])))) (ksS (by first | rfl | exact congrArg (fun z => some (Value.int z)) ((kn_add rfl (show (1 : Int32) = nI 1 from rfl)).trans (congrArg nI (by rw [e1, if_pos hq]))) | exact congrArg (fun z => some (Value.int z)) ((kn_add rfl (show (0 : Int32) = nI 0 from rfl)).trans (congrArg nI (by rw [e1, if_neg hq])))) (ksS (by first | rfl | exact congrArg (fun z => some (Value.int z)) ((kn_add rfl (show (1 : Int32) = nI 1 from rfl)).trans (congrArg nI (by rw [e1, if_pos hq]))) | exact congrArg (fun z => some (Value.int z)) ((kn_add rfl (show (0 : Int32) = nI 0 from rfl)).trans (congrArg nI (by rw [e1, if_neg hq])))) (ksS (by first | rfl | exact congrArg (fun z => some (Value.int z)) ((kn_add rfl (show (1 : Int32) = nI 1 from rfl)).trans (congrArg nI (by rw [e1, if_pos hq]))) | exact congrArg (fun z => some (Value.int z)) ((kn_add rfl (show (0 : Int32) = nI 0 from rfl)).trans (congrArg nI (by rw [e1, if_neg hq])))) ksN)))))))))
                            · exact absurd h97 (by decide)
                          · exact absurd (Int32.le_refl (nI 3)) h96
                        · have e1 : kAlA g (kCarOf g a 1) (kCarOf g b 0) (m + 1) = kAlA g (kCarOf g a 1) (kCarOf g b 0) m + (if ¬ g (40 + 8 * (kCarOf g a 1) + (5 + m)) < 0 ∧ g (40 + 8 * (kCarOf g a 1) + (5 + m)) = g (40 + 8 * (kCarOf g b 0) + (5 + m)) then 1 else 0) := rfl
                          refine kv_iload dX12_areTied_39 rfl ?_
                          refine kv_iconst dX12_areTied_41 3 ki_3 ?_
                          refine kv_icmp_ge dX12_areTied_42 97 (by decide) (fun h105 => ?_) (fun h105 => ?_)
                          · exact absurd h105 (kn_ge (n := 3) hm (by omega))
                          · refine kv_iload dX12_areTied_45 rfl ?_
                            refine kv_aload_n dX12_areTied_47 rfl ?_
                            refine kv_iload dX12_areTied_48 rfl ?_
                            refine kv_iconst dX12_areTied_50 5 ki_5 ?_
                            refine kv_iload dX12_areTied_51 rfl ?_
                            refine kv_iadd dX12_areTied_53 ?_
                            rw [show (5 + nI m : Int32) = nI (5 + m) from kn_add (show (5 : Int32) = nI 5 from rfl) rfl]
                            refine kw_Vi [_, _] mX12_car dX12_areTied_54 lX12_89 wX12_car kC12 hu rfl (by first | rfl | assumption) rfl rfl rfl (by first | exact gX12_car hu eg (kCarOf g a 0) (5 + m) (by omega) (by omega) | exact gX12_car hu eg (kCarOf g a 1) (5 + m) (by omega) (by omega) ) (by decide) ?_
                            refine kv_if_lt dX12_areTied_57 87 (by decide) (fun h106 => ?_) (fun h106 => ?_)
                            · have hq : ¬ (¬ g (40 + 8 * (kCarOf g a 1) + (5 + m)) < 0 ∧ g (40 + 8 * (kCarOf g a 1) + (5 + m)) = g (40 + 8 * (kCarOf g b 0) + (5 + m))) := fun q => q.1 h106
                              refine kv_iconst dX12_areTied_87 0 ki_0 ?_
                              refine kv_iadd dX12_areTied_88 ?_
                              refine kv_istore (ls2 := [_, _, _, _, _, _, _, _, _]) dX12_areTied_89 rfl rfl rfl rfl ?_
                              refine kv_iinc (ls2 := [_, _, _, _, _, _, _, _, _]) dX12_areTied_91 (nI (m + 1)) rfl (kv_inc1 m) rfl rfl rfl rfl ?_
                              refine kv_goto dX12_areTied_94 39 (by decide) ?_
                              exact KV.loc ih (ksS (by first | rfl | exact congrArg (fun z => some (Value.int z)) ((kn_add rfl (show (1 : Int32) = nI 1 from rfl)).trans (congrArg nI (by rw [e1, if_pos hq]))) | exact congrArg (fun z => some (Value.int z)) ((kn_add rfl (show (0 : Int32) = nI 0 from rfl)).trans (congrArg nI (by rw [e1, if_neg hq])))) (ksS (by first | rfl | exact congrArg (fun z => some (Value.int z)) ((kn_add rfl (show (1 : Int32) = nI 1 from rfl)).trans (congrArg nI (by rw [e1, if_pos hq]))) | exact congrArg (fun z => some (Value.int z)) ((kn_add rfl (show (0 : Int32) = nI 0 from rfl)).trans (congrArg nI (by rw [e1, if_neg hq])))) (ksS (by first | rfl | exact congrArg (fun z => some (Value.int z)) ((kn_add rfl (show (1 : Int32) = nI 1 from rfl)).trans (congrArg nI (by rw [e1, if_pos hq]))) | exact congrArg (fun z => some (Value.int z)) ((kn_add rfl (show (0 : Int32) = nI 0 from rfl)).trans (congrArg nI (by rw [e1, if_neg hq])))) (ksS (by first | rfl | exact congrArg (fun z => some (Value.int z)) ((kn_add rfl (show (1 : Int32) = nI 1 from rfl)).trans (congrArg nI (by rw [e1, if_pos hq]))) | exact congrArg (fun z => some (Value.int z)) ((kn_add rfl (show (0 : Int32) = nI 0 from rfl)).trans (congrArg nI (by rw [e1, if_neg hq])))) (ksS (by first | rfl | exact congrArg (fun z => some (Value.int z)) ((kn_add rfl (show (1 : Int32) = nI 1 from rfl)).trans (congrArg nI (by rw [e1, if_pos hq]))) | exact congrArg (fun z => some (Value.int z)) ((kn_add rfl (show (0 : Int32) = nI 0 from rfl)).trans (congrArg nI (by rw [e1, if_neg hq])))) (ksS (by first | rfl | exact congrArg (fun z => some (Value.int z)) ((kn_add rfl (show (1 : Int32) = nI 1 from rfl)).trans (congrArg nI (by rw [e1, if_pos hq]))) | exact congrArg (fun z => some (Value.int z)) ((kn_add rfl (show (0 : Int32) = nI 0 from rfl)).trans (congrArg nI (by rw [e1, if_neg hq])))) (ksS (by first | rfl | exact congrArg (fun z => some (Value.int z)) ((kn_add rfl (show (1 : Int32) = nI 1 from rfl)).trans (congrArg nI (by rw [e1, if_pos hq]))) | exact congrArg (fun z => some (Value.int z)) ((kn_add rfl (show (0 : Int32) = nI 0 from rfl)).trans (congrArg nI (by rw [e1, if_neg hq])))) (ksS (by first | rfl | exact congrArg (fun z => some (Value.int z)) ((kn_add rfl (show (1 : Int32) = nI 1 from rfl)).trans (congrArg nI (by rw [e1, if_pos hq]))) | exact congrArg (fun z => some (Value.int z)) ((kn_add rfl (show (0 : Int32) = nI 0 from rfl)).trans (congrArg nI (by rw [e1, if_neg hq])))) (ksS (by first | rfl | exact congrArg (fun z => some (Value.int z)) ((kn_add rfl (show (1 : Int32) = nI 1 from rfl)).trans (congrArg nI (by rw [e1, if_pos hq]))) | exact congrArg (fun z => some (Value.int z)) ((kn_add rfl (show (0 : Int32) = nI 0 from rfl)).trans (congrArg nI (by rw [e1, if_neg hq])))) ksN)))))))))
                            · have h0 := h106
                              refine kv_aload_n dX12_areTied_60 rfl ?_
                              refine kv_iload dX12_areTied_61 rfl ?_
                              refine kv_iconst dX12_areTied_63 5 ki_5 ?_
                              refine kv_iload dX12_areTied_64 rfl ?_
                              refine kv_iadd dX12_areTied_66 ?_
                              rw [show (5 + nI m : Int32) = nI (5 + m) from kn_add (show (5 : Int32) = nI 5 from rfl) rfl]
                              refine kw_Vi [_, _] mX12_car dX12_areTied_67 lX12_89 wX12_car kC12 hu rfl (by first | rfl | assumption) rfl rfl rfl (by first | exact gX12_car hu eg (kCarOf g a 0) (5 + m) (by omega) (by omega) | exact gX12_car hu eg (kCarOf g a 1) (5 + m) (by omega) (by omega) ) (by decide) ?_
                              refine kv_aload_n dX12_areTied_70 rfl ?_
                              refine kv_iload dX12_areTied_71 rfl ?_
                              refine kv_iconst dX12_areTied_73 5 ki_5 ?_
                              refine kv_iload dX12_areTied_74 rfl ?_
                              refine kv_iadd dX12_areTied_76 ?_
                              rw [show (5 + nI m : Int32) = nI (5 + m) from kn_add (show (5 : Int32) = nI 5 from rfl) rfl]
                              refine kw_Vi [_, _] mX12_car dX12_areTied_77 lX12_89 wX12_car kC12 hu rfl (by first | rfl | assumption) rfl rfl rfl (by first | exact gX12_car hu eg (kCarOf g b 0) (5 + m) (by omega) (by omega) | exact gX12_car hu eg (kCarOf g b 1) (5 + m) (by omega) (by omega) ) (by decide) ?_
                              refine kv_icmp_ne dX12_areTied_80 87 (by decide) (fun h107 => ?_) (fun h107 => ?_)
                              · have hq : ¬ (¬ g (40 + 8 * (kCarOf g a 1) + (5 + m)) < 0 ∧ g (40 + 8 * (kCarOf g a 1) + (5 + m)) = g (40 + 8 * (kCarOf g b 0) + (5 + m))) := fun q => h107 q.2
                                refine kv_iconst dX12_areTied_87 0 ki_0 ?_
                                refine kv_iadd dX12_areTied_88 ?_
                                refine kv_istore (ls2 := [_, _, _, _, _, _, _, _, _]) dX12_areTied_89 rfl rfl rfl rfl ?_
                                refine kv_iinc (ls2 := [_, _, _, _, _, _, _, _, _]) dX12_areTied_91 (nI (m + 1)) rfl (kv_inc1 m) rfl rfl rfl rfl ?_
                                refine kv_goto dX12_areTied_94 39 (by decide) ?_
                                exact KV.loc ih (ksS (by first | rfl | exact congrArg (fun z => some (Value.int z)) ((kn_add rfl (show (1 : Int32) = nI 1 from rfl)).trans (congrArg nI (by rw [e1, if_pos hq]))) | exact congrArg (fun z => some (Value.int z)) ((kn_add rfl (show (0 : Int32) = nI 0 from rfl)).trans (congrArg nI (by rw [e1, if_neg hq])))) (ksS (by first | rfl | exact congrArg (fun z => some (Value.int z)) ((kn_add rfl (show (1 : Int32) = nI 1 from rfl)).trans (congrArg nI (by rw [e1, if_pos hq]))) | exact congrArg (fun z => some (Value.int z)) ((kn_add rfl (show (0 : Int32) = nI 0 from rfl)).trans (congrArg nI (by rw [e1, if_neg hq])))) (ksS (by first | rfl | exact congrArg (fun z => some (Value.int z)) ((kn_add rfl (show (1 : Int32) = nI 1 from rfl)).trans (congrArg nI (by rw [e1, if_pos hq]))) | exact congrArg (fun z => some (Value.int z)) ((kn_add rfl (show (0 : Int32) = nI 0 from rfl)).trans (congrArg nI (by rw [e1, if_neg hq])))) (ksS (by first | rfl | exact congrArg (fun z => some (Value.int z)) ((kn_add rfl (show (1 : Int32) = nI 1 from rfl)).trans (congrArg nI (by rw [e1, if_pos hq]))) | exact congrArg (fun z => some (Value.int z)) ((kn_add rfl (show (0 : Int32) = nI 0 from rfl)).trans (congrArg nI (by rw [e1, if_neg hq])))) (ksS (by first | rfl | exact congrArg (fun z => some (Value.int z)) ((kn_add rfl (show (1 : Int32) = nI 1 from rfl)).trans (congrArg nI (by rw [e1, if_pos hq]))) | exact congrArg (fun z => some (Value.int z)) ((kn_add rfl (show (0 : Int32) = nI 0 from rfl)).trans (congrArg nI (by rw [e1, if_neg hq])))) (ksS (by first | rfl | exact congrArg (fun z => some (Value.int z)) ((kn_add rfl (show (1 : Int32) = nI 1 from rfl)).trans (congrArg nI (by rw [e1, if_pos hq]))) | exact congrArg (fun z => some (Value.int z)) ((kn_add rfl (show (0 : Int32) = nI 0 from rfl)).trans (congrArg nI (by rw [e1, if_neg hq])))) (ksS (by first | rfl | exact congrArg (fun z => some (Value.int z)) ((kn_add rfl (show (1 : Int32) = nI 1 from rfl)).trans (congrArg nI (by rw [e1, if_pos hq]))) | exact congrArg (fun z => some (Value.int z)) ((kn_add rfl (show (0 : Int32) = nI 0 from rfl)).trans (congrArg nI (by rw [e1, if_neg hq])))) (ksS (by first | rfl | exact congrArg (fun z => some (Value.int z)) ((kn_add rfl (show (1 : Int32) = nI 1 from rfl)).trans (congrArg nI (by rw [e1, if_pos hq]))) | exact congrArg (fun z => some (Value.int z)) ((kn_add rfl (show (0 : Int32) = nI 0 from rfl)).trans (congrArg nI (by rw [e1, if_neg hq])))) (ksS (by first | rfl | exact congrArg (fun z => some (Value.int z)) ((kn_add rfl (show (1 : Int32) = nI 1 from rfl)).trans (congrArg nI (by rw [e1, if_pos hq]))) | exact congrArg (fun z => some (Value.int z)) ((kn_add rfl (show (0 : Int32) = nI 0 from rfl)).trans (congrArg nI (by rw [e1, if_neg hq])))) ksN)))))))))
                              · have hq : ¬ g (40 + 8 * (kCarOf g a 1) + (5 + m)) < 0 ∧ g (40 + 8 * (kCarOf g a 1) + (5 + m)) = g (40 + 8 * (kCarOf g b 0) + (5 + m)) := ⟨h0, h107⟩
                                refine kv_iconst dX12_areTied_83 1 ki_1 ?_
                                refine kv_goto dX12_areTied_84 88 (by decide) ?_
                                refine kv_iadd dX12_areTied_88 ?_
                                refine kv_istore (ls2 := [_, _, _, _, _, _, _, _, _]) dX12_areTied_89 rfl rfl rfl rfl ?_
                                refine kv_iinc (ls2 := [_, _, _, _, _, _, _, _, _]) dX12_areTied_91 (nI (m + 1)) rfl (kv_inc1 m) rfl rfl rfl rfl ?_
                                refine kv_goto dX12_areTied_94 39 (by decide) ?_
                                exact KV.loc ih (ksS (by first | rfl | exact congrArg (fun z => some (Value.int z)) ((kn_add rfl (show (1 : Int32) = nI 1 from rfl)).trans (congrArg nI (by rw [e1, if_pos hq]))) | exact congrArg (fun z => some (Value.int z)) ((kn_add rfl (show (0 : Int32) = nI 0 from rfl)).trans (congrArg nI (by rw [e1, if_neg hq])))) (ksS (by first | rfl | exact congrArg (fun z => some (Value.int z)) ((kn_add rfl (show (1 : Int32) = nI 1 from rfl)).trans (congrArg nI (by rw [e1, if_pos hq]))) | exact congrArg (fun z => some (Value.int z)) ((kn_add rfl (show (0 : Int32) = nI 0 from rfl)).trans (congrArg nI (by rw [e1, if_neg hq])))) (ksS (by first | rfl | exact congrArg (fun z => some (Value.int z)) ((kn_add rfl (show (1 : Int32) = nI 1 from rfl)).trans (congrArg nI (by rw [e1, if_pos hq]))) | exact congrArg (fun z => some (Value.int z)) ((kn_add rfl (show (0 : Int32) = nI 0 from rfl)).trans (congrArg nI (by rw [e1, if_neg hq])))) (ksS (by first | rfl | exact congrArg (fun z => some (Value.int z)) ((kn_add rfl (show (1 : Int32) = nI 1 from rfl)).trans (congrArg nI (by rw [e1, if_pos hq]))) | exact congrArg (fun z => some (Value.int z)) ((kn_add rfl (show (0 : Int32) = nI 0 from rfl)).trans (congrArg nI (by rw [e1, if_neg hq])))) (ksS (by first | rfl | exact congrArg (fun z => some (Value.int z)) ((kn_add rfl (show (1 : Int32) = nI 1 from rfl)).trans (congrArg nI (by rw [e1, if_pos hq]))) | exact congrArg (fun z => some (Value.int z)) ((kn_add rfl (show (0 : Int32) = nI 0 from rfl)).trans (congrArg nI (by rw [e1, if_neg hq])))) (ksS (by first | rfl | exact congrArg (fun z => some (Value.int z)) ((kn_add rfl (show (1 : Int32) = nI 1 from rfl)).trans (congrArg nI (by rw [e1, if_pos hq]))) | exact congrArg (fun z => some (Value.int z)) ((kn_add rfl (show (0 : Int32) = nI 0 from rfl)).trans (congrArg nI (by rw [e1, if_neg hq])))) (ksS (by first | rfl | exact congrArg (fun z => some (Value.int z)) ((kn_add rfl (show (1 : Int32) = nI 1 from rfl)).trans (congrArg nI (by rw [e1, if_pos hq]))) | exact congrArg (fun z => some (Value.int z)) ((kn_add rfl (show (0 : Int32) = nI 0 from rfl)).trans (congrArg nI (by rw [e1, if_neg hq])))) (ksS (by first | rfl | exact congrArg (fun z => some (Value.int z)) ((kn_add rfl (show (1 : Int32) = nI 1 from rfl)).trans (congrArg nI (by rw [e1, if_pos hq]))) | exact congrArg (fun z => some (Value.int z)) ((kn_add rfl (show (0 : Int32) = nI 0 from rfl)).trans (congrArg nI (by rw [e1, if_neg hq])))) (ksS (by first | rfl | exact congrArg (fun z => some (Value.int z)) ((kn_add rfl (show (1 : Int32) = nI 1 from rfl)).trans (congrArg nI (by rw [e1, if_pos hq]))) | exact congrArg (fun z => some (Value.int z)) ((kn_add rfl (show (0 : Int32) = nI 0 from rfl)).trans (congrArg nI (by rw [e1, if_neg hq])))) ksN)))))))))
                    · exact absurd h94 (by decide)
                  · exact absurd (Int32.le_refl (nI 3)) h93
                · have e1 : kAlA g (kCarOf g a 0) (kCarOf g b 1) (m + 1) = kAlA g (kCarOf g a 0) (kCarOf g b 1) m + (if ¬ g (40 + 8 * (kCarOf g a 0) + (5 + m)) < 0 ∧ g (40 + 8 * (kCarOf g a 0) + (5 + m)) = g (40 + 8 * (kCarOf g b 1) + (5 + m)) then 1 else 0) := rfl
                  refine kv_iload dX12_areTied_39 rfl ?_
                  refine kv_iconst dX12_areTied_41 3 ki_3 ?_
                  refine kv_icmp_ge dX12_areTied_42 97 (by decide) (fun h108 => ?_) (fun h108 => ?_)
                  · exact absurd h108 (kn_ge (n := 3) hm (by omega))
                  · refine kv_iload dX12_areTied_45 rfl ?_
                    refine kv_aload_n dX12_areTied_47 rfl ?_
                    refine kv_iload dX12_areTied_48 rfl ?_
                    refine kv_iconst dX12_areTied_50 5 ki_5 ?_
                    refine kv_iload dX12_areTied_51 rfl ?_
                    refine kv_iadd dX12_areTied_53 ?_
                    rw [show (5 + nI m : Int32) = nI (5 + m) from kn_add (show (5 : Int32) = nI 5 from rfl) rfl]
                    refine kw_Vi [_, _] mX12_car dX12_areTied_54 lX12_89 wX12_car kC12 hu rfl (by first | rfl | assumption) rfl rfl rfl (by first | exact gX12_car hu eg (kCarOf g a 0) (5 + m) (by omega) (by omega) | exact gX12_car hu eg (kCarOf g a 1) (5 + m) (by omega) (by omega) ) (by decide) ?_
                    refine kv_if_lt dX12_areTied_57 87 (by decide) (fun h109 => ?_) (fun h109 => ?_)
                    · have hq : ¬ (¬ g (40 + 8 * (kCarOf g a 0) + (5 + m)) < 0 ∧ g (40 + 8 * (kCarOf g a 0) + (5 + m)) = g (40 + 8 * (kCarOf g b 1) + (5 + m))) := fun q => q.1 h109
                      refine kv_iconst dX12_areTied_87 0 ki_0 ?_
                      refine kv_iadd dX12_areTied_88 ?_
                      refine kv_istore (ls2 := [_, _, _, _, _, _, _, _, _]) dX12_areTied_89 rfl rfl rfl rfl ?_
                      refine kv_iinc (ls2 := [_, _, _, _, _, _, _, _, _]) dX12_areTied_91 (nI (m + 1)) rfl (kv_inc1 m) rfl rfl rfl rfl ?_
                      refine kv_goto dX12_areTied_94 39 (by decide) ?_
                      exact KV.loc ih (ksS (by first | rfl | exact congrArg (fun z => some (Value.int z)) ((kn_add rfl (show (1 : Int32) = nI 1 from rfl)).trans (congrArg nI (by rw [e1, if_pos hq]))) | exact congrArg (fun z => some (Value.int z)) ((kn_add rfl (show (0 : Int32) = nI 0 from rfl)).trans (congrArg nI (by rw [e1, if_neg hq])))) (ksS (by first | rfl | exact congrArg (fun z => some (Value.int z)) ((kn_add rfl (show (1 : Int32) = nI 1 from rfl)).trans (congrArg nI (by rw [e1, if_pos hq]))) | exact congrArg (fun z => some (Value.int z)) ((kn_add rfl (show (0 : Int32) = nI 0 from rfl)).trans (congrArg nI (by rw [e1, if_neg hq])))) (ksS (by first | rfl | exact congrArg (fun z => some (Value.int z)) ((kn_add rfl (show (1 : Int32) = nI 1 from rfl)).trans (congrArg nI (by rw [e1, if_pos hq]))) | exact congrArg (fun z => some (Value.int z)) ((kn_add rfl (show (0 : Int32) = nI 0 from rfl)).trans (congrArg nI (by rw [e1, if_neg hq])))) (ksS (by first | rfl | exact congrArg (fun z => some (Value.int z)) ((kn_add rfl (show (1 : Int32) = nI 1 from rfl)).trans (congrArg nI (by rw [e1, if_pos hq]))) | exact congrArg (fun z => some (Value.int z)) ((kn_add rfl (show (0 : Int32) = nI 0 from rfl)).trans (congrArg nI (by rw [e1, if_neg hq])))) (ksS (by first | rfl | exact congrArg (fun z => some (Value.int z)) ((kn_add rfl (show (1 : Int32) = nI 1 from rfl)).trans (congrArg nI (by rw [e1, if_pos hq]))) | exact congrArg (fun z => some (Value.int z)) ((kn_add rfl (show (0 : Int32) = nI 0 from rfl)).trans (congrArg nI (by rw [e1, if_neg hq])))) (ksS (by first | rfl | exact congrArg (fun z => some (Value.int z)) ((kn_add rfl (show (1 : Int32) = nI 1 from rfl)).trans (congrArg nI (by rw [e1, if_pos hq]))) | exact congrArg (fun z => some (Value.int z)) ((kn_add rfl (show (0 : Int32) = nI 0 from rfl)).trans (congrArg nI (by rw [e1, if_neg hq])))) (ksS (by first | rfl | exact congrArg (fun z => some (Value.int z)) ((kn_add rfl (show (1 : Int32) = nI 1 from rfl)).trans (congrArg nI (by rw [e1, if_pos hq]))) | exact congrArg (fun z => some (Value.int z)) ((kn_add rfl (show (0 : Int32) = nI 0 from rfl)).trans (congrArg nI (by rw [e1, if_neg hq])))) (ksS (by first | rfl | exact congrArg (fun z => some (Value.int z)) ((kn_add rfl (show (1 : Int32) = nI 1 from rfl)).trans (congrArg nI (by rw [e1, if_pos hq]))) | exact congrArg (fun z => some (Value.int z)) ((kn_add rfl (show (0 : Int32) = nI 0 from rfl)).trans (congrArg nI (by rw [e1, if_neg hq])))) (ksS (by first | rfl | exact congrArg (fun z => some (Value.int z)) ((kn_add rfl (show (1 : Int32) = nI 1 from rfl)).trans (congrArg nI (by rw [e1, if_pos hq]))) | exact congrArg (fun z => some (Value.int z)) ((kn_add rfl (show (0 : Int32) = nI 0 from rfl)).trans (congrArg nI (by rw [e1, if_neg hq])))) ksN)))))))))
                    · have h0 := h109
                      refine kv_aload_n dX12_areTied_60 rfl ?_
                      refine kv_iload dX12_areTied_61 rfl ?_
                      refine kv_iconst dX12_areTied_63 5 ki_5 ?_
                      refine kv_iload dX12_areTied_64 rfl ?_
                      refine kv_iadd dX12_areTied_66 ?_
                      rw [show (5 + nI m : Int32) = nI (5 + m) from kn_add (show (5 : Int32) = nI 5 from rfl) rfl]
                      refine kw_Vi [_, _] mX12_car dX12_areTied_67 lX12_89 wX12_car kC12 hu rfl (by first | rfl | assumption) rfl rfl rfl (by first | exact gX12_car hu eg (kCarOf g a 0) (5 + m) (by omega) (by omega) | exact gX12_car hu eg (kCarOf g a 1) (5 + m) (by omega) (by omega) ) (by decide) ?_
                      refine kv_aload_n dX12_areTied_70 rfl ?_
                      refine kv_iload dX12_areTied_71 rfl ?_
                      refine kv_iconst dX12_areTied_73 5 ki_5 ?_
                      refine kv_iload dX12_areTied_74 rfl ?_
                      refine kv_iadd dX12_areTied_76 ?_
                      rw [show (5 + nI m : Int32) = nI (5 + m) from kn_add (show (5 : Int32) = nI 5 from rfl) rfl]
                      refine kw_Vi [_, _] mX12_car dX12_areTied_77 lX12_89 wX12_car kC12 hu rfl (by first | rfl | assumption) rfl rfl rfl (by first | exact gX12_car hu eg (kCarOf g b 0) (5 + m) (by omega) (by omega) | exact gX12_car hu eg (kCarOf g b 1) (5 + m) (by omega) (by omega) ) (by decide) ?_
                      refine kv_icmp_ne dX12_areTied_80 87 (by decide) (fun h110 => ?_) (fun h110 => ?_)
                      · have hq : ¬ (¬ g (40 + 8 * (kCarOf g a 0) + (5 + m)) < 0 ∧ g (40 + 8 * (kCarOf g a 0) + (5 + m)) = g (40 + 8 * (kCarOf g b 1) + (5 + m))) := fun q => h110 q.2
                        refine kv_iconst dX12_areTied_87 0 ki_0 ?_
                        refine kv_iadd dX12_areTied_88 ?_
                        refine kv_istore (ls2 := [_, _, _, _, _, _, _, _, _]) dX12_areTied_89 rfl rfl rfl rfl ?_
                        refine kv_iinc (ls2 := [_, _, _, _, _, _, _, _, _]) dX12_areTied_91 (nI (m + 1)) rfl (kv_inc1 m) rfl rfl rfl rfl ?_
                        refine kv_goto dX12_areTied_94 39 (by decide) ?_
                        exact KV.loc ih (ksS (by first | rfl | exact congrArg (fun z => some (Value.int z)) ((kn_add rfl (show (1 : Int32) = nI 1 from rfl)).trans (congrArg nI (by rw [e1, if_pos hq]))) | exact congrArg (fun z => some (Value.int z)) ((kn_add rfl (show (0 : Int32) = nI 0 from rfl)).trans (congrArg nI (by rw [e1, if_neg hq])))) (ksS (by first | rfl | exact congrArg (fun z => some (Value.int z)) ((kn_add rfl (show (1 : Int32) = nI 1 from rfl)).trans (congrArg nI (by rw [e1, if_pos hq]))) | exact congrArg (fun z => some (Value.int z)) ((kn_add rfl (show (0 : Int32) = nI 0 from rfl)).trans (congrArg nI (by rw [e1, if_neg hq])))) (ksS (by first | rfl | exact congrArg (fun z => some (Value.int z)) ((kn_add rfl (show (1 : Int32) = nI 1 from rfl)).trans (congrArg nI (by rw [e1, if_pos hq]))) | exact congrArg (fun z => some (Value.int z)) ((kn_add rfl (show (0 : Int32) = nI 0 from rfl)).trans (congrArg nI (by rw [e1, if_neg hq])))) (ksS (by first | rfl | exact congrArg (fun z => some (Value.int z)) ((kn_add rfl (show (1 : Int32) = nI 1 from rfl)).trans (congrArg nI (by rw [e1, if_pos hq]))) | exact congrArg (fun z => some (Value.int z)) ((kn_add rfl (show (0 : Int32) = nI 0 from rfl)).trans (congrArg nI (by rw [e1, if_neg hq])))) (ksS (by first | rfl | exact congrArg (fun z => some (Value.int z)) ((kn_add rfl (show (1 : Int32) = nI 1 from rfl)).trans (congrArg nI (by rw [e1, if_pos hq]))) | exact congrArg (fun z => some (Value.int z)) ((kn_add rfl (show (0 : Int32) = nI 0 from rfl)).trans (congrArg nI (by rw [e1, if_neg hq])))) (ksS (by first | rfl | exact congrArg (fun z => some (Value.int z)) ((kn_add rfl (show (1 : Int32) = nI 1 from rfl)).trans (congrArg nI (by rw [e1, if_pos hq]))) | exact congrArg (fun z => some (Value.int z)) ((kn_add rfl (show (0 : Int32) = nI 0 from rfl)).trans (congrArg nI (by rw [e1, if_neg hq])))) (ksS (by first | rfl | exact congrArg (fun z => some (Value.int z)) ((kn_add rfl (show (1 : Int32) = nI 1 from rfl)).trans (congrArg nI (by rw [e1, if_pos hq]))) | exact congrArg (fun z => some (Value.int z)) ((kn_add rfl (show (0 : Int32) = nI 0 from rfl)).trans (congrArg nI (by rw [e1, if_neg hq])))) (ksS (by first | rfl | exact congrArg (fun z => some (Value.int z)) ((kn_add rfl (show (1 : Int32) = nI 1 from rfl)).trans (congrArg nI (by rw [e1, if_pos hq]))) | exact congrArg (fun z => some (Value.int z)) ((kn_add rfl (show (0 : Int32) = nI 0 from rfl)).trans (congrArg nI (by rw [e1, if_neg hq])))) (ksS (by first | rfl | exact congrArg (fun z => some (Value.int z)) ((kn_add rfl (show (1 : Int32) = nI 1 from rfl)).trans (congrArg nI (by rw [e1, if_pos hq]))) | exact congrArg (fun z => some (Value.int z)) ((kn_add rfl (show (0 : Int32) = nI 0 from rfl)).trans (congrArg nI (by rw [e1, if_neg hq])))) ksN)))))))))
                      · have hq : ¬ g (40 + 8 * (kCarOf g a 0) + (5 + m)) < 0 ∧ g (40 + 8 * (kCarOf g a 0) + (5 + m)) = g (40 + 8 * (kCarOf g b 1) + (5 + m)) := ⟨h0, h110⟩
                        refine kv_iconst dX12_areTied_83 1 ki_1 ?_
                        refine kv_goto dX12_areTied_84 88 (by decide) ?_
                        refine kv_iadd dX12_areTied_88 ?_
                        refine kv_istore (ls2 := [_, _, _, _, _, _, _, _, _]) dX12_areTied_89 rfl rfl rfl rfl ?_
                        refine kv_iinc (ls2 := [_, _, _, _, _, _, _, _, _]) dX12_areTied_91 (nI (m + 1)) rfl (kv_inc1 m) rfl rfl rfl rfl ?_
                        refine kv_goto dX12_areTied_94 39 (by decide) ?_
                        exact KV.loc ih (ksS (by first | rfl | exact congrArg (fun z => some (Value.int z)) ((kn_add rfl (show (1 : Int32) = nI 1 from rfl)).trans (congrArg nI (by rw [e1, if_pos hq]))) | exact congrArg (fun z => some (Value.int z)) ((kn_add rfl (show (0 : Int32) = nI 0 from rfl)).trans (congrArg nI (by rw [e1, if_neg hq])))) (ksS (by first | rfl | exact congrArg (fun z => some (Value.int z)) ((kn_add rfl (show (1 : Int32) = nI 1 from rfl)).trans (congrArg nI (by rw [e1, if_pos hq]))) | exact congrArg (fun z => some (Value.int z)) ((kn_add rfl (show (0 : Int32) = nI 0 from rfl)).trans (congrArg nI (by rw [e1, if_neg hq])))) (ksS (by first | rfl | exact congrArg (fun z => some (Value.int z)) ((kn_add rfl (show (1 : Int32) = nI 1 from rfl)).trans (congrArg nI (by rw [e1, if_pos hq]))) | exact congrArg (fun z => some (Value.int z)) ((kn_add rfl (show (0 : Int32) = nI 0 from rfl)).trans (congrArg nI (by rw [e1, if_neg hq])))) (ksS (by first | rfl | exact congrArg (fun z => some (Value.int z)) ((kn_add rfl (show (1 : Int32) = nI 1 from rfl)).trans (congrArg nI (by rw [e1, if_pos hq]))) | exact congrArg (fun z => some (Value.int z)) ((kn_add rfl (show (0 : Int32) = nI 0 from rfl)).trans (congrArg nI (by rw [e1, if_neg hq])))) (ksS (by first | rfl | exact congrArg (fun z => some (Value.int z)) ((kn_add rfl (show (1 : Int32) = nI 1 from rfl)).trans (congrArg nI (by rw [e1, if_pos hq]))) | exact congrArg (fun z => some (Value.int z)) ((kn_add rfl (show (0 : Int32) = nI 0 from rfl)).trans (congrArg nI (by rw [e1, if_neg hq])))) (ksS (by first | rfl | exact congrArg (fun z => some (Value.int z)) ((kn_add rfl (show (1 : Int32) = nI 1 from rfl)).trans (congrArg nI (by rw [e1, if_pos hq]))) | exact congrArg (fun z => some (Value.int z)) ((kn_add rfl (show (0 : Int32) = nI 0 from rfl)).trans (congrArg nI (by rw [e1, if_neg hq])))) (ksS (by first | rfl | exact congrArg (fun z => some (Value.int z)) ((kn_add rfl (show (1 : Int32) = nI 1 from rfl)).trans (congrArg nI (by rw [e1, if_pos hq]))) | exact congrArg (fun z => some (Value.int z)) ((kn_add rfl (show (0 : Int32) = nI 0 from rfl)).trans (congrArg nI (by rw [e1, if_neg hq])))) (ksS (by first | rfl | exact congrArg (fun z => some (Value.int z)) ((kn_add rfl (show (1 : Int32) = nI 1 from rfl)).trans (congrArg nI (by rw [e1, if_pos hq]))) | exact congrArg (fun z => some (Value.int z)) ((kn_add rfl (show (0 : Int32) = nI 0 from rfl)).trans (congrArg nI (by rw [e1, if_neg hq])))) (ksS (by first | rfl | exact congrArg (fun z => some (Value.int z)) ((kn_add rfl (show (1 : Int32) = nI 1 from rfl)).trans (congrArg nI (by rw [e1, if_pos hq]))) | exact congrArg (fun z => some (Value.int z)) ((kn_add rfl (show (0 : Int32) = nI 0 from rfl)).trans (congrArg nI (by rw [e1, if_neg hq])))) ksN)))))))))
      · exact absurd (Int32.le_refl (nI 3)) h2
    · have e1 : kAlA g (kCarOf g a 0) (kCarOf g b 0) (m + 1) = kAlA g (kCarOf g a 0) (kCarOf g b 0) m + (if ¬ g (40 + 8 * (kCarOf g a 0) + (5 + m)) < 0 ∧ g (40 + 8 * (kCarOf g a 0) + (5 + m)) = g (40 + 8 * (kCarOf g b 0) + (5 + m)) then 1 else 0) := rfl
      refine kv_iload dX12_areTied_39 rfl ?_
      refine kv_iconst dX12_areTied_41 3 ki_3 ?_
      refine kv_icmp_ge dX12_areTied_42 97 (by decide) (fun h111 => ?_) (fun h111 => ?_)
      · exact absurd h111 (kn_ge (n := 3) hm (by omega))
      · refine kv_iload dX12_areTied_45 rfl ?_
        refine kv_aload_n dX12_areTied_47 rfl ?_
        refine kv_iload dX12_areTied_48 rfl ?_
        refine kv_iconst dX12_areTied_50 5 ki_5 ?_
        refine kv_iload dX12_areTied_51 rfl ?_
        refine kv_iadd dX12_areTied_53 ?_
        rw [show (5 + nI m : Int32) = nI (5 + m) from kn_add (show (5 : Int32) = nI 5 from rfl) rfl]
        refine kw_Vi [_, _] mX12_car dX12_areTied_54 lX12_89 wX12_car kC12 hu rfl (by first | rfl | assumption) rfl rfl rfl (by first | exact gX12_car hu eg (kCarOf g a 0) (5 + m) (by omega) (by omega) | exact gX12_car hu eg (kCarOf g a 1) (5 + m) (by omega) (by omega) ) (by decide) ?_
        refine kv_if_lt dX12_areTied_57 87 (by decide) (fun h112 => ?_) (fun h112 => ?_)
        · have hq : ¬ (¬ g (40 + 8 * (kCarOf g a 0) + (5 + m)) < 0 ∧ g (40 + 8 * (kCarOf g a 0) + (5 + m)) = g (40 + 8 * (kCarOf g b 0) + (5 + m))) := fun q => q.1 h112
          refine kv_iconst dX12_areTied_87 0 ki_0 ?_
          refine kv_iadd dX12_areTied_88 ?_
          refine kv_istore (ls2 := [_, _, _, _, _, _, _, _, _]) dX12_areTied_89 rfl rfl rfl rfl ?_
          refine kv_iinc (ls2 := [_, _, _, _, _, _, _, _, _]) dX12_areTied_91 (nI (m + 1)) rfl (kv_inc1 m) rfl rfl rfl rfl ?_
          refine kv_goto dX12_areTied_94 39 (by decide) ?_
          exact KV.loc ih (ksS (by first | rfl | exact congrArg (fun z => some (Value.int z)) ((kn_add rfl (show (1 : Int32) = nI 1 from rfl)).trans (congrArg nI (by rw [e1, if_pos hq]))) | exact congrArg (fun z => some (Value.int z)) ((kn_add rfl (show (0 : Int32) = nI 0 from rfl)).trans (congrArg nI (by rw [e1, if_neg hq])))) (ksS (by first | rfl | exact congrArg (fun z => some (Value.int z)) ((kn_add rfl (show (1 : Int32) = nI 1 from rfl)).trans (congrArg nI (by rw [e1, if_pos hq]))) | exact congrArg (fun z => some (Value.int z)) ((kn_add rfl (show (0 : Int32) = nI 0 from rfl)).trans (congrArg nI (by rw [e1, if_neg hq])))) (ksS (by first | rfl | exact congrArg (fun z => some (Value.int z)) ((kn_add rfl (show (1 : Int32) = nI 1 from rfl)).trans (congrArg nI (by rw [e1, if_pos hq]))) | exact congrArg (fun z => some (Value.int z)) ((kn_add rfl (show (0 : Int32) = nI 0 from rfl)).trans (congrArg nI (by rw [e1, if_neg hq])))) (ksS (by first | rfl | exact congrArg (fun z => some (Value.int z)) ((kn_add rfl (show (1 : Int32) = nI 1 from rfl)).trans (congrArg nI (by rw [e1, if_pos hq]))) | exact congrArg (fun z => some (Value.int z)) ((kn_add rfl (show (0 : Int32) = nI 0 from rfl)).trans (congrArg nI (by rw [e1, if_neg hq])))) (ksS (by first | rfl | exact congrArg (fun z => some (Value.int z)) ((kn_add rfl (show (1 : Int32) = nI 1 from rfl)).trans (congrArg nI (by rw [e1, if_pos hq]))) | exact congrArg (fun z => some (Value.int z)) ((kn_add rfl (show (0 : Int32) = nI 0 from rfl)).trans (congrArg nI (by rw [e1, if_neg hq])))) (ksS (by first | rfl | exact congrArg (fun z => some (Value.int z)) ((kn_add rfl (show (1 : Int32) = nI 1 from rfl)).trans (congrArg nI (by rw [e1, if_pos hq]))) | exact congrArg (fun z => some (Value.int z)) ((kn_add rfl (show (0 : Int32) = nI 0 from rfl)).trans (congrArg nI (by rw [e1, if_neg hq])))) (ksS (by first | rfl | exact congrArg (fun z => some (Value.int z)) ((kn_add rfl (show (1 : Int32) = nI 1 from rfl)).trans (congrArg nI (by rw [e1, if_pos hq]))) | exact congrArg (fun z => some (Value.int z)) ((kn_add rfl (show (0 : Int32) = nI 0 from rfl)).trans (congrArg nI (by rw [e1, if_neg hq])))) (ksS (by first | rfl | exact congrArg (fun z => some (Value.int z)) ((kn_add rfl (show (1 : Int32) = nI 1 from rfl)).trans (congrArg nI (by rw [e1, if_pos hq]))) | exact congrArg (fun z => some (Value.int z)) ((kn_add rfl (show (0 : Int32) = nI 0 from rfl)).trans (congrArg nI (by rw [e1, if_neg hq])))) (ksS (by first | rfl | exact congrArg (fun z => some (Value.int z)) ((kn_add rfl (show (1 : Int32) = nI 1 from rfl)).trans (congrArg nI (by rw [e1, if_pos hq]))) | exact congrArg (fun z => some (Value.int z)) ((kn_add rfl (show (0 : Int32) = nI 0 from rfl)).trans (congrArg nI (by rw [e1, if_neg hq])))) ksN)))))))))
        · have h0 := h112
          refine kv_aload_n dX12_areTied_60 rfl ?_
          refine kv_iload dX12_areTied_61 rfl ?_
          refine kv_iconst dX12_areTied_63 5 ki_5 ?_
          refine kv_iload dX12_areTied_64 rfl ?_
          refine kv_iadd dX12_areTied_66 ?_
          rw [show (5 + nI m : Int32) = nI (5 + m) from kn_add (show (5 : Int32) = nI 5 from rfl) rfl]
          refine kw_Vi [_, _] mX12_car dX12_areTied_67 lX12_89 wX12_car kC12 hu rfl (by first | rfl | assumption) rfl rfl rfl (by first | exact gX12_car hu eg (kCarOf g a 0) (5 + m) (by omega) (by omega) | exact gX12_car hu eg (kCarOf g a 1) (5 + m) (by omega) (by omega) ) (by decide) ?_
          refine kv_aload_n dX12_areTied_70 rfl ?_
          refine kv_iload dX12_areTied_71 rfl ?_
          refine kv_iconst dX12_areTied_73 5 ki_5 ?_
          refine kv_iload dX12_areTied_74 rfl ?_
          refine kv_iadd dX12_areTied_76 ?_
          rw [show (5 + nI m : Int32) = nI (5 + m) from kn_add (show (5 : Int32) = nI 5 from rfl) rfl]
          refine kw_Vi [_, _] mX12_car dX12_areTied_77 lX12_89 wX12_car kC12 hu rfl (by first | rfl | assumption) rfl rfl rfl (by first | exact gX12_car hu eg (kCarOf g b 0) (5 + m) (by omega) (by omega) | exact gX12_car hu eg (kCarOf g b 1) (5 + m) (by omega) (by omega) ) (by decide) ?_
          refine kv_icmp_ne dX12_areTied_80 87 (by decide) (fun h113 => ?_) (fun h113 => ?_)
          · have hq : ¬ (¬ g (40 + 8 * (kCarOf g a 0) + (5 + m)) < 0 ∧ g (40 + 8 * (kCarOf g a 0) + (5 + m)) = g (40 + 8 * (kCarOf g b 0) + (5 + m))) := fun q => h113 q.2
            refine kv_iconst dX12_areTied_87 0 ki_0 ?_
            refine kv_iadd dX12_areTied_88 ?_
            refine kv_istore (ls2 := [_, _, _, _, _, _, _, _, _]) dX12_areTied_89 rfl rfl rfl rfl ?_
            refine kv_iinc (ls2 := [_, _, _, _, _, _, _, _, _]) dX12_areTied_91 (nI (m + 1)) rfl (kv_inc1 m) rfl rfl rfl rfl ?_
            refine kv_goto dX12_areTied_94 39 (by decide) ?_
            exact KV.loc ih (ksS (by first | rfl | exact congrArg (fun z => some (Value.int z)) ((kn_add rfl (show (1 : Int32) = nI 1 from rfl)).trans (congrArg nI (by rw [e1, if_pos hq]))) | exact congrArg (fun z => some (Value.int z)) ((kn_add rfl (show (0 : Int32) = nI 0 from rfl)).trans (congrArg nI (by rw [e1, if_neg hq])))) (ksS (by first | rfl | exact congrArg (fun z => some (Value.int z)) ((kn_add rfl (show (1 : Int32) = nI 1 from rfl)).trans (congrArg nI (by rw [e1, if_pos hq]))) | exact congrArg (fun z => some (Value.int z)) ((kn_add rfl (show (0 : Int32) = nI 0 from rfl)).trans (congrArg nI (by rw [e1, if_neg hq])))) (ksS (by first | rfl | exact congrArg (fun z => some (Value.int z)) ((kn_add rfl (show (1 : Int32) = nI 1 from rfl)).trans (congrArg nI (by rw [e1, if_pos hq]))) | exact congrArg (fun z => some (Value.int z)) ((kn_add rfl (show (0 : Int32) = nI 0 from rfl)).trans (congrArg nI (by rw [e1, if_neg hq])))) (ksS (by first | rfl | exact congrArg (fun z => some (Value.int z)) ((kn_add rfl (show (1 : Int32) = nI 1 from rfl)).trans (congrArg nI (by rw [e1, if_pos hq]))) | exact congrArg (fun z => some (Value.int z)) ((kn_add rfl (show (0 : Int32) = nI 0 from rfl)).trans (congrArg nI (by rw [e1, if_neg hq])))) (ksS (by first | rfl | exact congrArg (fun z => some (Value.int z)) ((kn_add rfl (show (1 : Int32) = nI 1 from rfl)).trans (congrArg nI (by rw [e1, if_pos hq]))) | exact congrArg (fun z => some (Value.int z)) ((kn_add rfl (show (0 : Int32) = nI 0 from rfl)).trans (congrArg nI (by rw [e1, if_neg hq])))) (ksS (by first | rfl | exact congrArg (fun z => some (Value.int z)) ((kn_add rfl (show (1 : Int32) = nI 1 from rfl)).trans (congrArg nI (by rw [e1, if_pos hq]))) | exact congrArg (fun z => some (Value.int z)) ((kn_add rfl (show (0 : Int32) = nI 0 from rfl)).trans (congrArg nI (by rw [e1, if_neg hq])))) (ksS (by first | rfl | exact congrArg (fun z => some (Value.int z)) ((kn_add rfl (show (1 : Int32) = nI 1 from rfl)).trans (congrArg nI (by rw [e1, if_pos hq]))) | exact congrArg (fun z => some (Value.int z)) ((kn_add rfl (show (0 : Int32) = nI 0 from rfl)).trans (congrArg nI (by rw [e1, if_neg hq])))) (ksS (by first | rfl | exact congrArg (fun z => some (Value.int z)) ((kn_add rfl (show (1 : Int32) = nI 1 from rfl)).trans (congrArg nI (by rw [e1, if_pos hq]))) | exact congrArg (fun z => some (Value.int z)) ((kn_add rfl (show (0 : Int32) = nI 0 from rfl)).trans (congrArg nI (by rw [e1, if_neg hq])))) (ksS (by first | rfl | exact congrArg (fun z => some (Value.int z)) ((kn_add rfl (show (1 : Int32) = nI 1 from rfl)).trans (congrArg nI (by rw [e1, if_pos hq]))) | exact congrArg (fun z => some (Value.int z)) ((kn_add rfl (show (0 : Int32) = nI 0 from rfl)).trans (congrArg nI (by rw [e1, if_neg hq])))) ksN)))))))))
          · have hq : ¬ g (40 + 8 * (kCarOf g a 0) + (5 + m)) < 0 ∧ g (40 + 8 * (kCarOf g a 0) + (5 + m)) = g (40 + 8 * (kCarOf g b 0) + (5 + m)) := ⟨h0, h113⟩
            refine kv_iconst dX12_areTied_83 1 ki_1 ?_
            refine kv_goto dX12_areTied_84 88 (by decide) ?_
            refine kv_iadd dX12_areTied_88 ?_
            refine kv_istore (ls2 := [_, _, _, _, _, _, _, _, _]) dX12_areTied_89 rfl rfl rfl rfl ?_
            refine kv_iinc (ls2 := [_, _, _, _, _, _, _, _, _]) dX12_areTied_91 (nI (m + 1)) rfl (kv_inc1 m) rfl rfl rfl rfl ?_
            refine kv_goto dX12_areTied_94 39 (by decide) ?_
            exact KV.loc ih (ksS (by first | rfl | exact congrArg (fun z => some (Value.int z)) ((kn_add rfl (show (1 : Int32) = nI 1 from rfl)).trans (congrArg nI (by rw [e1, if_pos hq]))) | exact congrArg (fun z => some (Value.int z)) ((kn_add rfl (show (0 : Int32) = nI 0 from rfl)).trans (congrArg nI (by rw [e1, if_neg hq])))) (ksS (by first | rfl | exact congrArg (fun z => some (Value.int z)) ((kn_add rfl (show (1 : Int32) = nI 1 from rfl)).trans (congrArg nI (by rw [e1, if_pos hq]))) | exact congrArg (fun z => some (Value.int z)) ((kn_add rfl (show (0 : Int32) = nI 0 from rfl)).trans (congrArg nI (by rw [e1, if_neg hq])))) (ksS (by first | rfl | exact congrArg (fun z => some (Value.int z)) ((kn_add rfl (show (1 : Int32) = nI 1 from rfl)).trans (congrArg nI (by rw [e1, if_pos hq]))) | exact congrArg (fun z => some (Value.int z)) ((kn_add rfl (show (0 : Int32) = nI 0 from rfl)).trans (congrArg nI (by rw [e1, if_neg hq])))) (ksS (by first | rfl | exact congrArg (fun z => some (Value.int z)) ((kn_add rfl (show (1 : Int32) = nI 1 from rfl)).trans (congrArg nI (by rw [e1, if_pos hq]))) | exact congrArg (fun z => some (Value.int z)) ((kn_add rfl (show (0 : Int32) = nI 0 from rfl)).trans (congrArg nI (by rw [e1, if_neg hq])))) (ksS (by first | rfl | exact congrArg (fun z => some (Value.int z)) ((kn_add rfl (show (1 : Int32) = nI 1 from rfl)).trans (congrArg nI (by rw [e1, if_pos hq]))) | exact congrArg (fun z => some (Value.int z)) ((kn_add rfl (show (0 : Int32) = nI 0 from rfl)).trans (congrArg nI (by rw [e1, if_neg hq])))) (ksS (by first | rfl | exact congrArg (fun z => some (Value.int z)) ((kn_add rfl (show (1 : Int32) = nI 1 from rfl)).trans (congrArg nI (by rw [e1, if_pos hq]))) | exact congrArg (fun z => some (Value.int z)) ((kn_add rfl (show (0 : Int32) = nI 0 from rfl)).trans (congrArg nI (by rw [e1, if_neg hq])))) (ksS (by first | rfl | exact congrArg (fun z => some (Value.int z)) ((kn_add rfl (show (1 : Int32) = nI 1 from rfl)).trans (congrArg nI (by rw [e1, if_pos hq]))) | exact congrArg (fun z => some (Value.int z)) ((kn_add rfl (show (0 : Int32) = nI 0 from rfl)).trans (congrArg nI (by rw [e1, if_neg hq])))) (ksS (by first | rfl | exact congrArg (fun z => some (Value.int z)) ((kn_add rfl (show (1 : Int32) = nI 1 from rfl)).trans (congrArg nI (by rw [e1, if_pos hq]))) | exact congrArg (fun z => some (Value.int z)) ((kn_add rfl (show (0 : Int32) = nI 0 from rfl)).trans (congrArg nI (by rw [e1, if_neg hq])))) (ksS (by first | rfl | exact congrArg (fun z => some (Value.int z)) ((kn_add rfl (show (1 : Int32) = nI 1 from rfl)).trans (congrArg nI (by rw [e1, if_pos hq]))) | exact congrArg (fun z => some (Value.int z)) ((kn_add rfl (show (0 : Int32) = nI 0 from rfl)).trans (congrArg nI (by rw [e1, if_neg hq])))) ksN)))))))))

def kS96 (a k : Nat) : Prop := a = 396
def kS25 (a k : Nat) : Prop := a = 425
theorem kS25_now (k : Nat) : ¬ kS25 414 k := by unfold kS25; omega
theorem kEq.fl {A : Nat → Nat → Prop} {u v : KMem} {b n : Nat} {x : Int32} (h : kEq A u v) (ha : ∀ k, A b k) : kEq A u (kFl v b n x) := ⟨h.1, h.2.1, fun c k q => by
  rw [kFl_n (fun z => q (by rw [z.1]; exact ha k))]
  exact h.2.2.1 c k q, h.2.2.2⟩
set_option maxRecDepth 20000 in
set_option maxHeartbeats 4000000 in
theorem qX8_tieAll {w : KW} {l : Launch} {u : KMem} (hu : kWd u) {g : Nat → Int32} (hr : kRS 1 g u) (hg : kGI g) : KC w l mX8_tieAll 2 0 0 [.ref 394] u (fun r v => r = none ∧ kEq kS96 u v ∧ ∀ c, c < kN g 2 → v.2.1 396 c = nI (kTt g (kN g 2) c)) := by
  have hx20 := (hg.cnt (k := 2) rfl).2
  have hc30 := (hg.cnt (k := 0) rfl).2
  have hw := hg.cnt (k := 2) rfl
  refine KC.of (ls := [_, _, _]) rfl rfl (Nat.le_of_ble_eq_true rfl) ?_
  refine kv_aload_n dX8_tieAll_0 rfl ?_
  refine kw_gR dX8_tieAll_1 fX8_15 hu (by first | rfl | assumption) rfl rfl (by first | rfl | assumption) ?_
  refine kv_iconst dX8_tieAll_4 0 ki_0 ?_
  refine kw_Sv [_, _] mJ7_fill_53178 dX8_tieAll_5 lX8_52 wJ7_fill_53178 rfl rfl rfl (qJ7_fill_53178 (by exact hu) (n := 20) rfl (by omega) rfl _) (by decide) ?_
  refine kv_iconst dX8_tieAll_8 0 ki_0 ?_
  refine kv_istore_n (ls2 := [_, _, _]) dX8_tieAll_9 rfl rfl rfl rfl ?_
  refine KV.loc (ls2 := [some (.ref 394), some (.int (nI (0))), none]) ?_ (ksS rfl (ksS rfl (ks0 ksN)))
  refine kn_loop (P := fun a => ∀ v : KMem, kEq kS96 u v → (∀ c, c < 20 → v.2.1 396 c = nI (kTp g a 0 c)) → KV w l mX8_tieAll 2 0 0 10 [some (.ref 394), some (.int (nI a)), none] [] v (fun r v => r = none ∧ kEq kS96 u v ∧ ∀ c, c < kN g 2 → v.2.1 396 c = nI (kTt g (kN g 2) c))) (kN g 2) ?_ (fun a ha ih => ?_) _ (kEq.rf.fl (fun k => rfl)) (fun c hc => by rw [kFl_s hc, kTp_0]; rfl)
  · intro v E hT
    have hv := E.wd hu
    have hrv : kRS 1 g v := hr.of (fun a k h1 h2 => E.2.2.1 a k (by unfold kS96; omega)) hg
    refine kv_iload_n dX8_tieAll_10 rfl ?_
    refine kv_aload_n dX8_tieAll_11 rfl ?_
    refine kw_gR dX8_tieAll_12 fX8_18 hv (by first | rfl | assumption) rfl rfl (by first | rfl | assumption) ?_
    refine kw_gI dX8_tieAll_15 fX8_58 hv (by first | rfl | assumption) rfl rfl ?_
    rw [hrv.n2, hw.1]
    refine kv_icmp_ge dX8_tieAll_18 89 (by decide) (fun h1 => ?_) (fun h1 => ?_)
    · exact kv_vret dX8_tieAll_89 rfl ⟨rfl, E, fun c hc => by rw [← kTp_end (by omega) hc]; exact hT c (by omega)⟩
    · exact absurd h1 (fun q => q (Int32.le_refl _))
  · have iha := ih
    intro v E hT
    have hv := E.wd hu
    have hrv : kRS 1 g v := hr.of (fun a k h1 h2 => E.2.2.1 a k (by unfold kS96; omega)) hg
    refine kv_iload_n dX8_tieAll_10 rfl ?_
    refine kv_aload_n dX8_tieAll_11 rfl ?_
    refine kw_gR dX8_tieAll_12 fX8_18 hv (by first | rfl | assumption) rfl rfl (by first | rfl | assumption) ?_
    refine kw_gI dX8_tieAll_15 fX8_58 hv (by first | rfl | assumption) rfl rfl ?_
    rw [hrv.n2, hw.1]
    refine kv_icmp_ge dX8_tieAll_18 89 (by decide) (fun h2 => ?_) (fun h2 => ?_)
    · exact absurd h2 (kn_ge ha (by omega))
    · refine kv_iconst dX8_tieAll_21 0 ki_0 ?_
      refine kv_istore_n (ls2 := [_, _, _]) dX8_tieAll_22 rfl rfl rfl rfl ?_
      refine KV.loc (ls2 := [some (.ref 394), some (.int (nI a)), some (.int (nI (0)))]) ?_ (ksS rfl (ksS rfl (ksS rfl ksN)))
      refine kn_loop (P := fun b => ∀ v : KMem, kEq kS96 u v → (∀ c, c < 20 → v.2.1 396 c = nI (kTp g a b c)) → KV w l mX8_tieAll 2 0 0 23 [some (.ref 394), some (.int (nI a)), some (.int (nI b))] [] v (fun r v => r = none ∧ kEq kS96 u v ∧ ∀ c, c < kN g 2 → v.2.1 396 c = nI (kTt g (kN g 2) c))) (a) ?_ (fun b hb ih => ?_) v E hT
      · intro v E hT
        have hv := E.wd hu
        have hrv : kRS 1 g v := hr.of (fun a k h1 h2 => E.2.2.1 a k (by unfold kS96; omega)) hg
        refine kv_iload_n dX8_tieAll_23 rfl ?_
        refine kv_iload_n dX8_tieAll_24 rfl ?_
        refine kv_icmp_ge dX8_tieAll_25 83 (by decide) (fun h3 => ?_) (fun h3 => ?_)
        · refine kv_iinc (ls2 := [_, _, _]) dX8_tieAll_83 (nI (a + 1)) rfl (kv_inc1 a) rfl rfl rfl rfl ?_
          refine kv_goto dX8_tieAll_86 10 (by decide) ?_
          exact KV.loc (iha v E (fun c hc => by rw [← kTp_up]; exact hT c hc)) (ksS rfl (ksS rfl (ks0 ksN)))
        · exact absurd h3 (fun q => q (Int32.le_refl _))
      · intro v E hT
        have hv := E.wd hu
        have hrv : kRS 1 g v := hr.of (fun a k h1 h2 => E.2.2.1 a k (by unfold kS96; omega)) hg
        have kx := ks_crash a (by omega)
        have kx1 := kx.1
        have kx2 := kx.2.1
        have kx4 := kx.2.2.2.1
        have kx6 := kx.2.2.2.2.2
        have ky := ks_crash b (by omega)
        have ky1 := ky.1
        have ky2 := ky.2.1
        have ky4 := ky.2.2.2.1
        have ky6 := ky.2.2.2.2.2
        refine kv_iload_n dX8_tieAll_23 rfl ?_
        refine kv_iload_n dX8_tieAll_24 rfl ?_
        refine kv_icmp_ge dX8_tieAll_25 83 (by decide) (fun h4 => ?_) (fun h4 => ?_)
        · exact absurd h4 (kn_ge hb (by omega))
        · refine kv_aload_n dX8_tieAll_28 rfl ?_
          refine kv_aload_n dX8_tieAll_29 rfl ?_
          refine kw_gR dX8_tieAll_30 fX8_18 hv (by first | rfl | assumption) rfl rfl (by first | rfl | assumption) ?_
          refine kw_gR dX8_tieAll_33 fX8_22 hv (by first | rfl | assumption) rfl rfl (by first | rfl | assumption) ?_
          refine kv_iload_n dX8_tieAll_36 rfl ?_
          refine kw_al (t := 1) (n := 20) dX8_tieAll_37 hv rfl rfl (a) rfl (by omega) rfl (by first | rfl | assumption) ?_
          refine kv_aload_n dX8_tieAll_38 rfl ?_
          refine kw_gR dX8_tieAll_39 fX8_18 hv (by first | rfl | assumption) rfl rfl (by first | rfl | assumption) ?_
          refine kw_gR dX8_tieAll_42 fX8_22 hv (by first | rfl | assumption) rfl rfl (by first | rfl | assumption) ?_
          refine kv_iload_n dX8_tieAll_45 rfl ?_
          refine kw_al (t := 1) (n := 20) dX8_tieAll_46 hv rfl rfl (b) rfl (by omega) rfl (by first | rfl | assumption) ?_
          refine kw_Vi [_, _] mX8_areTied dX8_tieAll_47 lX8_61 wX8_areTied kC8 hv rfl (by first | rfl | assumption) rfl rfl rfl (qX8_areTied hv hrv hg a b (by omega) (by omega)) (by decide) ?_
          refine kw_beq dX8_tieAll_50 77 (by decide) (fun h5 => ?_) (fun h5 => ?_)
          · have ht := h5
            refine kv_iinc (ls2 := [_, _, _]) dX8_tieAll_77 (nI (b + 1)) rfl (kv_inc1 b) rfl rfl rfl rfl ?_
            refine kv_goto dX8_tieAll_80 23 (by decide) ?_
            first
            | exact KV.loc (ih _ E (fun c hc => by rw [kTp_n ht]; exact hT c hc)) (ksS rfl (ksS rfl (ksS rfl ksN)))
            | (refine KV.loc (ih _ ((E.si rfl).si rfl) (fun c hc => ?_)) (ksS rfl (ksS rfl (ksS rfl ksN)))
               by_cases q1 : c = b
               · rw [q1, kv_si_s]
               · rw [kv_si_n (by omega)]
                 by_cases q2 : c = a
                 · rw [q2, kv_si_s]
                 · rw [kv_si_n (by omega), kTp_o q2 q1]; exact hT c hc)
          · have ht := h5
            refine kv_aload_n dX8_tieAll_53 rfl ?_
            refine kw_gR dX8_tieAll_54 fX8_15 hv (by first | rfl | assumption) rfl rfl (by first | rfl | assumption) ?_
            refine kv_iload_n dX8_tieAll_57 rfl ?_
            refine kv_dup2 dX8_tieAll_58 rfl rfl ?_
            refine kw_il dX8_tieAll_59 hv (by first | rfl | assumption) (a) rfl (by omega) rfl ?_
            rw [hT a (by omega)]
            refine kv_iconst dX8_tieAll_60 1 ki_1 ?_
            refine kv_iload_n dX8_tieAll_61 rfl ?_
            refine kv_ishl dX8_tieAll_62 ?_
            rw [kn_pow b (by omega)]
            refine kv_ior dX8_tieAll_63 ?_
            rw [kn_or, kTp_a hb (by omega) ht]
            refine kw_is dX8_tieAll_64 hv (by first | rfl | assumption) (a) rfl (by omega) rfl ?_
            refine kv_aload_n dX8_tieAll_65 rfl ?_
            refine kw_gR dX8_tieAll_66 fX8_15 hv (by first | rfl | assumption) rfl rfl (by first | rfl | assumption) ?_
            refine kv_iload_n dX8_tieAll_69 rfl ?_
            refine kv_dup2 dX8_tieAll_70 rfl rfl ?_
            refine kw_il dX8_tieAll_71 hv (by first | rfl | assumption) (b) rfl (by omega) rfl ?_
            rw [kv_si_n (by omega), hT b (by omega)]
            refine kv_iconst dX8_tieAll_72 1 ki_1 ?_
            refine kv_iload_n dX8_tieAll_73 rfl ?_
            refine kv_ishl dX8_tieAll_74 ?_
            rw [kn_pow a (by omega)]
            refine kv_ior dX8_tieAll_75 ?_
            rw [kn_or, kTp_b hb (by omega) ht]
            refine kw_is dX8_tieAll_76 hv (by first | rfl | assumption) (b) rfl (by omega) rfl ?_
            refine kv_iinc (ls2 := [_, _, _]) dX8_tieAll_77 (nI (b + 1)) rfl (kv_inc1 b) rfl rfl rfl rfl ?_
            refine kv_goto dX8_tieAll_80 23 (by decide) ?_
            first
            | exact KV.loc (ih _ E (fun c hc => by rw [kTp_n ht]; exact hT c hc)) (ksS rfl (ksS rfl (ksS rfl ksN)))
            | (refine KV.loc (ih _ ((E.si rfl).si rfl) (fun c hc => ?_)) (ksS rfl (ksS rfl (ksS rfl ksN)))
               by_cases q1 : c = b
               · rw [q1, kv_si_s]
               · rw [kv_si_n (by omega)]
                 by_cases q2 : c = a
                 · rw [q2, kv_si_s]
                 · rw [kv_si_n (by omega), kTp_o q2 q1]; exact hT c hc)

set_option maxRecDepth 20000 in
set_option maxHeartbeats 4000000 in
theorem qX12_findTies {w : KW} {l : Launch} {u : KMem} (hu : kWd u) {g : Nat → Int32} (eg : u.2.1 414 = g) (hg : kGI g) : KC w l mX12_findTies 3 0 0 [.ref 413] u (fun r v => r = none ∧ kEq kS25 u v ∧ ∀ c, c < kN g 2 → v.2.1 425 c = nI (kTt g (kN g 2) c)) := by
  have hx20 := (hg.cnt (k := 2) rfl).2
  have hc30 := (hg.cnt (k := 0) rfl).2
  have hw := hg.cnt (k := 2) rfl
  refine KC.of (ls := [_, _, _]) rfl rfl (Nat.le_of_ble_eq_true rfl) ?_
  refine kv_iconst dX12_findTies_0 0 ki_0 ?_
  refine kv_istore_n (ls2 := [_, _, _]) dX12_findTies_1 rfl rfl rfl rfl ?_
  refine KV.loc (ls2 := [some (.ref 413), some (.int (nI (0))), none]) ?_ (ksS rfl (ksS rfl (ks0 ksN)))
  refine kn_loop (P := fun a => ∀ v : KMem, kEq kS25 u v → (∀ c, c < a → v.2.1 425 c = nI (kTt g (kN g 2) c)) → KV w l mX12_findTies 3 0 0 2 [some (.ref 413), some (.int (nI a)), none] [] v (fun r v => r = none ∧ kEq kS25 u v ∧ ∀ c, c < kN g 2 → v.2.1 425 c = nI (kTt g (kN g 2) c))) (kN g 2) ?_ (fun a ha ih => ?_) u kEq.rf (fun c hc => absurd hc (Nat.not_lt_zero c))
  · intro v E hT
    have hv := E.wd hu
    have egv : v.2.1 414 = g := (E.row kS25_now).trans eg
    refine kv_iload_n dX12_findTies_2 rfl ?_
    refine kv_aload_n dX12_findTies_3 rfl ?_
    refine kw_gR dX12_findTies_4 fX12_9 hv (by first | rfl | assumption) rfl rfl (by first | rfl | assumption) ?_
    refine kv_iconst dX12_findTies_7 2 ki_2 ?_
    refine kw_ig dX12_findTies_8 hv egv rfl (_) (show (2 : Int32) = nI 2 from rfl) (by omega) rfl ?_
    rw [hw.1]
    refine kv_icmp_ge dX12_findTies_9 73 (by decide) (fun h1 => ?_) (fun h1 => ?_)
    · exact kv_vret dX12_findTies_73 rfl ⟨rfl, E, hT⟩
    · exact absurd h1 (fun q => q (Int32.le_refl _))
  · have iha := ih
    intro v E hT
    have hv := E.wd hu
    have egv : v.2.1 414 = g := (E.row kS25_now).trans eg
    refine kv_iload_n dX12_findTies_2 rfl ?_
    refine kv_aload_n dX12_findTies_3 rfl ?_
    refine kw_gR dX12_findTies_4 fX12_9 hv (by first | rfl | assumption) rfl rfl (by first | rfl | assumption) ?_
    refine kv_iconst dX12_findTies_7 2 ki_2 ?_
    refine kw_ig dX12_findTies_8 hv egv rfl (_) (show (2 : Int32) = nI 2 from rfl) (by omega) rfl ?_
    rw [hw.1]
    refine kv_icmp_ge dX12_findTies_9 73 (by decide) (fun h2 => ?_) (fun h2 => ?_)
    · exact absurd h2 (kn_ge ha (by omega))
    · refine kv_aload_n dX12_findTies_12 rfl ?_
      refine kw_gR dX12_findTies_13 fX12_53 hv (by first | rfl | assumption) rfl rfl (by first | rfl | assumption) ?_
      refine kv_iload_n dX12_findTies_16 rfl ?_
      refine kv_iconst dX12_findTies_17 0 ki_0 ?_
      refine kw_is dX12_findTies_18 hv (by first | rfl | assumption) (a) rfl (by omega) rfl ?_
      refine kv_iconst dX12_findTies_19 0 ki_0 ?_
      refine kv_istore_n (ls2 := [_, _, _]) dX12_findTies_20 rfl rfl rfl rfl ?_
      refine KV.loc (ls2 := [some (.ref 413), some (.int (nI a)), some (.int (nI (0)))]) ?_ (ksS rfl (ksS rfl (ksS rfl ksN)))
      refine kn_loop (P := fun b => ∀ v : KMem, kEq kS25 u v → (∀ c, c < a → v.2.1 425 c = nI (kTt g (kN g 2) c)) → v.2.1 425 a = nI (kSt (fun d => decide (¬ a = d ∧ kTie g a d)) b) → KV w l mX12_findTies 3 0 0 21 [some (.ref 413), some (.int (nI a)), some (.int (nI b))] [] v (fun r v => r = none ∧ kEq kS25 u v ∧ ∀ c, c < kN g 2 → v.2.1 425 c = nI (kTt g (kN g 2) c))) (kN g 2) ?_ (fun b hb ih => ?_) _ (E.si rfl) (fun c hc => by rw [kv_si_n (by omega)]; exact hT c hc) (kv_si_s _ _ _ _)
      · intro v E hT hS
        have hv := E.wd hu
        have egv : v.2.1 414 = g := (E.row kS25_now).trans eg
        refine kv_iload_n dX12_findTies_21 rfl ?_
        refine kv_aload_n dX12_findTies_22 rfl ?_
        refine kw_gR dX12_findTies_23 fX12_9 hv (by first | rfl | assumption) rfl rfl (by first | rfl | assumption) ?_
        refine kv_iconst dX12_findTies_26 2 ki_2 ?_
        refine kw_ig dX12_findTies_27 hv egv rfl (_) (show (2 : Int32) = nI 2 from rfl) (by omega) rfl ?_
        rw [hw.1]
        refine kv_icmp_ge dX12_findTies_28 67 (by decide) (fun h3 => ?_) (fun h3 => ?_)
        · refine kv_iinc (ls2 := [_, _, _]) dX12_findTies_67 (nI (a + 1)) rfl (kv_inc1 a) rfl rfl rfl rfl ?_
          refine kv_goto dX12_findTies_70 2 (by decide) ?_
          refine KV.loc (iha v E (fun c hc => ?_)) (ksS rfl (ksS rfl (ks0 ksN)))
          by_cases q : c = a
          · rw [q]; exact hS
          · exact hT c (by omega)
        · exact absurd h3 (fun q => q (Int32.le_refl _))
      · intro v E hT hS
        have hv := E.wd hu
        have egv : v.2.1 414 = g := (E.row kS25_now).trans eg
        have e1 : kSt (fun d => decide (¬ a = d ∧ kTie g a d)) (b + 1) = kSt (fun d => decide (¬ a = d ∧ kTie g a d)) b ||| (if (fun d => decide (¬ a = d ∧ kTie g a d)) b then 2 ^ b else 0) := rfl
        refine kv_iload_n dX12_findTies_21 rfl ?_
        refine kv_aload_n dX12_findTies_22 rfl ?_
        refine kw_gR dX12_findTies_23 fX12_9 hv (by first | rfl | assumption) rfl rfl (by first | rfl | assumption) ?_
        refine kv_iconst dX12_findTies_26 2 ki_2 ?_
        refine kw_ig dX12_findTies_27 hv egv rfl (_) (show (2 : Int32) = nI 2 from rfl) (by omega) rfl ?_
        rw [hw.1]
        refine kv_icmp_ge dX12_findTies_28 67 (by decide) (fun h4 => ?_) (fun h4 => ?_)
        · exact absurd h4 (kn_ge hb (by omega))
        · refine kv_aload_n dX12_findTies_31 rfl ?_
          refine kw_gR dX12_findTies_32 fX12_53 hv (by first | rfl | assumption) rfl rfl (by first | rfl | assumption) ?_
          refine kv_iload_n dX12_findTies_35 rfl ?_
          refine kv_dup2 dX12_findTies_36 rfl rfl ?_
          refine kw_il dX12_findTies_37 hv (by first | rfl | assumption) (a) rfl (by omega) rfl ?_
          rw [hS]
          refine kv_iload_n dX12_findTies_38 rfl ?_
          refine kv_iload_n dX12_findTies_39 rfl ?_
          refine kv_icmp_eq dX12_findTies_40 58 (by decide) (fun h5 => ?_) (fun h5 => ?_)
          · have hp : ¬ (fun d => decide (¬ a = d ∧ kTie g a d)) b = true := by
              have := (nI_eq (by omega) (by omega)).mp h5
              simp [this]
            refine kv_iconst dX12_findTies_58 0 ki_0 ?_
            refine kv_ior dX12_findTies_59 ?_
            refine kw_is dX12_findTies_60 hv (by first | rfl | assumption) (a) rfl (by omega) rfl ?_
            refine kv_iinc (ls2 := [_, _, _]) dX12_findTies_61 (nI (b + 1)) rfl (kv_inc1 b) rfl rfl rfl rfl ?_
            refine kv_goto dX12_findTies_64 21 (by decide) ?_
            refine KV.loc (ih _ (E.si rfl) (fun c hc => by rw [kv_si_n (by omega)]; exact hT c hc) ?_) (ksS rfl (ksS rfl (ksS rfl ksN)))
            rw [kv_si_s, e1]
            first
            | (rw [if_pos hp, kn_pow b (by omega)]; exact kn_or _ _)
            | (rw [if_neg hp]; exact kn_or _ 0)
          · have hne : ¬ a = b := fun q => h5 (by rw [q])
            refine kv_aload_n dX12_findTies_43 rfl ?_
            refine kv_iload_n dX12_findTies_44 rfl ?_
            refine kv_iload_n dX12_findTies_45 rfl ?_
            refine kw_Vi [_, _] mX12_areTied dX12_findTies_46 lX12_333 wX12_areTied kC12 hv rfl (by first | rfl | assumption) rfl rfl rfl (qX12_areTied hv egv hg a b ha hb) (by decide) ?_
            refine kw_beq dX12_findTies_49 58 (by decide) (fun h6 => ?_) (fun h6 => ?_)
            · have hp : ¬ (fun d => decide (¬ a = d ∧ kTie g a d)) b = true := fun q => h6 (of_decide_eq_true q).2
              refine kv_iconst dX12_findTies_58 0 ki_0 ?_
              refine kv_ior dX12_findTies_59 ?_
              refine kw_is dX12_findTies_60 hv (by first | rfl | assumption) (a) rfl (by omega) rfl ?_
              refine kv_iinc (ls2 := [_, _, _]) dX12_findTies_61 (nI (b + 1)) rfl (kv_inc1 b) rfl rfl rfl rfl ?_
              refine kv_goto dX12_findTies_64 21 (by decide) ?_
              refine KV.loc (ih _ (E.si rfl) (fun c hc => by rw [kv_si_n (by omega)]; exact hT c hc) ?_) (ksS rfl (ksS rfl (ksS rfl ksN)))
              rw [kv_si_s, e1]
              first
              | (rw [if_pos hp, kn_pow b (by omega)]; exact kn_or _ _)
              | (rw [if_neg hp]; exact kn_or _ 0)
            · have hp : (fun d => decide (¬ a = d ∧ kTie g a d)) b = true := decide_eq_true ⟨hne, h6⟩
              refine kv_iconst dX12_findTies_52 1 ki_1 ?_
              refine kv_iload_n dX12_findTies_53 rfl ?_
              refine kv_ishl dX12_findTies_54 ?_
              refine kv_goto dX12_findTies_55 59 (by decide) ?_
              refine kv_ior dX12_findTies_59 ?_
              refine kw_is dX12_findTies_60 hv (by first | rfl | assumption) (a) rfl (by omega) rfl ?_
              refine kv_iinc (ls2 := [_, _, _]) dX12_findTies_61 (nI (b + 1)) rfl (kv_inc1 b) rfl rfl rfl rfl ?_
              refine kv_goto dX12_findTies_64 21 (by decide) ?_
              refine KV.loc (ih _ (E.si rfl) (fun c hc => by rw [kv_si_n (by omega)]; exact hT c hc) ?_) (ksS rfl (ksS rfl (ksS rfl ksN)))
              rw [kv_si_s, e1]
              first
              | (rw [if_pos hp, kn_pow b (by omega)]; exact kn_or _ _)
              | (rw [if_neg hp]; exact kn_or _ 0)

