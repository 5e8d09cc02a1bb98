/-! like -/
def kLkV (g : Nat → Int32) (x i : Nat) : Nat := kLk (kKy g x) x i
def klike (a : KA) (p0 p1 p2 : Int32) : Int32 × KA := if kOut p0 0 (a 0 2 - 1) ∨ p1 < 0 ∨ kOut p2 0 1 then (-1000001, kF a 1) else if p1 < p0 then ((if p2 = 0 then nI (kLkV (a 0) p0.toNatClampNeg p1.toNatClampNeg) else nI (kD (a 0) p0.toNatClampNeg (kLkV (a 0) p0.toNatClampNeg p1.toNatClampNeg))), a) else (-1000002, kF a 2)
theorem kLkA_lt {key : Nat → Nat} {n m : Nat} (h0 : 0 < n) : ∀ f i, i + f = n → kLkA key n m f i < n
  | 0, _, _ => h0
  | f + 1, i, h => by
    unfold kLkA
    split
    · omega
    · exact kLkA_lt h0 f (i + 1) (by omega)
def kS5k (a k : Nat) : Prop := a = 395
def kS24 (a k : Nat) : Prop := a = 424
theorem kS24_now (k : Nat) : ¬ kS24 414 k := by unfold kS24; omega
theorem kKy_inj {g : Nat → Int32} {x i y : Nat} (hi : i < 20) (hy : y < 20) (h : kKy g x i = kKy g x y) : i = y := by
  unfold kKy at h
  omega
set_option maxRecDepth 20000 in
set_option maxHeartbeats 4000000 in
theorem qX8_unlike {w : KW} {l : Launch} {u : KMem} (hu : kWd u) {g : Nat → Int32} (hr : kRS 1 g u) (hg : kGI g) (b1 b2 : Nat) (hb1 : b1 < kN g 2) (hb2 : b2 < kN g 2) : KC w l mX8_unlike 1 0 0 [.ref 394, .int (nI b1), .int (nI b2)] u (kq (some (.int (nI (kD g b1 b2)))) u) := by
  have hx20 := (hg.cnt (k := 2) rfl).2
  refine KC.of (ls := [_, _, _, _, _]) rfl rfl (Nat.le_of_ble_eq_true rfl) ?_
  have kx := ks_crash b1 (by omega)
  have kx1 := kx.1
  have kx6 := kx.2.2.2.2.2
  have ky := ks_crash b2 (by omega)
  have ky1 := ky.1
  have ky6 := ky.2.2.2.2.2
  refine kv_aload_n dX8_unlike_0 rfl ?_
  refine kw_gR dX8_unlike_1 fX8_18 hu (by first | rfl | assumption) rfl rfl (by first | rfl | assumption) ?_
  refine kw_gR dX8_unlike_4 fX8_22 hu (by first | rfl | assumption) rfl rfl (by first | rfl | assumption) ?_
  refine kv_iload_n dX8_unlike_7 rfl ?_
  refine kw_al (t := 1) (n := 20) dX8_unlike_8 hu rfl rfl (b1) rfl (by omega) rfl (by first | rfl | assumption) ?_
  refine kv_astore_n (ls2 := [_, _, _, _, _]) dX8_unlike_9 rfl rfl rfl rfl ?_
  refine kv_aload_n dX8_unlike_10 rfl ?_
  refine kw_gR dX8_unlike_11 fX8_18 hu (by first | rfl | assumption) rfl rfl (by first | rfl | assumption) ?_
  refine kw_gR dX8_unlike_14 fX8_22 hu (by first | rfl | assumption) rfl rfl (by first | rfl | assumption) ?_
  refine kv_iload_n dX8_unlike_17 rfl ?_
  refine kw_al (t := 1) (n := 20) dX8_unlike_18 hu rfl rfl (b2) rfl (by omega) rfl (by first | rfl | assumption) ?_
  refine kv_astore (ls2 := [_, _, _, _, _]) dX8_unlike_19 rfl rfl rfl rfl ?_
  refine kv_bipush dX8_unlike_21 10 kb_10 ?_
  refine kv_aload_n dX8_unlike_23 rfl ?_
  refine kw_gI dX8_unlike_24 fX8_28 hu (by first | rfl | assumption) rfl rfl ?_
  rw [hr.fresh hb1]
  refine kv_aload dX8_unlike_27 rfl ?_
  refine kw_gI dX8_unlike_29 fX8_28 hu (by first | rfl | assumption) rfl rfl ?_
  rw [hr.fresh hb2]
  refine kv_ixor dX8_unlike_32 ?_
  refine kw_Si [_] mJ6_bitCount_0f7a4 dX8_unlike_33 lX8_34 wJ6_bitCount_0f7a4 rfl rfl rfl (qJ6_bitCount_0f7a4 hu _) (by decide) ?_
  refine kv_imul dX8_unlike_36 ?_
  refine kv_aload_n dX8_unlike_37 rfl ?_
  refine kw_gI dX8_unlike_38 fX8_40 hu (by first | rfl | assumption) rfl rfl ?_
  rw [hr.speed hb1]
  refine kv_aload dX8_unlike_41 rfl ?_
  refine kw_gI dX8_unlike_43 fX8_40 hu (by first | rfl | assumption) rfl rfl ?_
  rw [hr.speed hb2]
  refine kv_isub dX8_unlike_46 ?_
  refine kw_mabs dX8_unlike_47 lX8_43 rfl (by omega) ?_
  refine kv_iadd dX8_unlike_50 ?_
  exact kv_iret dX8_unlike_51 rfl ⟨congrArg (fun z => some (Value.int z)) (kD_x hg hb1 hb2), rfl⟩

set_option maxRecDepth 20000 in
set_option maxHeartbeats 4000000 in
theorem qX12_unlike {w : KW} {l : Launch} {u : KMem} (hu : kWd u) {g : Nat → Int32} (eg : u.2.1 414 = g) (hg : kGI g) (b1 b2 : Nat) (hb1 : b1 < kN g 2) (hb2 : b2 < kN g 2) : KC w l mX12_unlike 3 0 0 [.ref 413, .int (nI b1), .int (nI b2)] u (kq (some (.int (nI (kD g b1 b2)))) u) := by
  have hx20 := (hg.cnt (k := 2) rfl).2
  refine KC.of (ls := [_, _, _, _, _]) rfl rfl (Nat.le_of_ble_eq_true rfl) ?_
  refine kv_aload_n dX12_unlike_0 rfl ?_
  refine kv_iload_n dX12_unlike_1 rfl ?_
  refine kv_iconst dX12_unlike_2 3 ki_3 ?_
  refine kw_Vi [_, _] mX12_crash_ dX12_unlike_3 lX12_113 wX12_crash_ kC12 hu rfl (by first | rfl | assumption) rfl rfl rfl (gX12_crash_ hu eg b1 3 (by omega) (by omega)) (by decide) ?_
  refine kv_aload_n dX12_unlike_6 rfl ?_
  refine kv_iload_n dX12_unlike_7 rfl ?_
  refine kv_iconst dX12_unlike_8 3 ki_3 ?_
  refine kw_Vi [_, _] mX12_crash_ dX12_unlike_9 lX12_113 wX12_crash_ kC12 hu rfl (by first | rfl | assumption) rfl rfl rfl (gX12_crash_ hu eg b2 3 (by omega) (by omega)) (by decide) ?_
  refine kv_isub dX12_unlike_12 ?_
  refine kw_mabs dX12_unlike_13 lX12_327 rfl (by omega) ?_
  refine kv_istore_n (ls2 := [_, _, _, _, _]) dX12_unlike_16 rfl rfl rfl rfl ?_
  refine kv_iconst dX12_unlike_17 0 ki_0 ?_
  refine kv_istore (ls2 := [_, _, _, _, _]) dX12_unlike_18 rfl rfl rfl rfl ?_
  refine kv_iload dX12_unlike_20 rfl ?_
  refine kv_iconst dX12_unlike_22 2 ki_2 ?_
  refine kv_icmp_ge dX12_unlike_23 56 (by decide) (fun h1 => ?_) (fun h1 => ?_)
  · exact absurd h1 (by decide)
  · refine kv_iload_n dX12_unlike_26 rfl ?_
    refine kv_bipush dX12_unlike_27 10 kb_10 ?_
    refine kv_aload_n dX12_unlike_29 rfl ?_
    refine kv_iload_n dX12_unlike_30 rfl ?_
    refine kv_iload dX12_unlike_31 rfl ?_
    refine kw_Vi [_, _] mX12_fresh dX12_unlike_33 lX12_119 wX12_fresh kC12 hu rfl (by first | rfl | assumption) rfl rfl rfl (gX12_fresh hu eg hg b1 0 hb1 (by decide)) (by decide) ?_
    refine kv_aload_n dX12_unlike_36 rfl ?_
    refine kv_iload_n dX12_unlike_37 rfl ?_
    refine kv_iload dX12_unlike_38 rfl ?_
    refine kw_Vi [_, _] mX12_fresh dX12_unlike_40 lX12_119 wX12_fresh kC12 hu rfl (by first | rfl | assumption) rfl rfl rfl (gX12_fresh hu eg hg b2 0 hb2 (by decide)) (by decide) ?_
    refine kv_ixor dX12_unlike_43 ?_
    refine kw_Si [_] mX12_bits dX12_unlike_44 lX12_149 wX12_bits rfl rfl rfl (qX12_bits (by exact hu) _) (by decide) ?_
    refine kv_imul dX12_unlike_47 ?_
    refine kv_iadd dX12_unlike_48 ?_
    refine kv_istore_n (ls2 := [_, _, _, _, _]) dX12_unlike_49 rfl rfl rfl rfl ?_
    refine kv_iinc (ls2 := [_, _, _, _, _]) dX12_unlike_50 (1 : Int32) rfl rfl rfl rfl rfl rfl ?_
    refine kv_goto dX12_unlike_53 20 (by decide) ?_
    refine kv_iload dX12_unlike_20 rfl ?_
    refine kv_iconst dX12_unlike_22 2 ki_2 ?_
    refine kv_icmp_ge dX12_unlike_23 56 (by decide) (fun h2 => ?_) (fun h2 => ?_)
    · exact absurd h2 (by decide)
    · refine kv_iload_n dX12_unlike_26 rfl ?_
      refine kv_bipush dX12_unlike_27 10 kb_10 ?_
      refine kv_aload_n dX12_unlike_29 rfl ?_
      refine kv_iload_n dX12_unlike_30 rfl ?_
      refine kv_iload dX12_unlike_31 rfl ?_
      refine kw_Vi [_, _] mX12_fresh dX12_unlike_33 lX12_119 wX12_fresh kC12 hu rfl (by first | rfl | assumption) rfl rfl rfl (gX12_fresh hu eg hg b1 1 hb1 (by decide)) (by decide) ?_
      refine kv_aload_n dX12_unlike_36 rfl ?_
      refine kv_iload_n dX12_unlike_37 rfl ?_
      refine kv_iload dX12_unlike_38 rfl ?_
      refine kw_Vi [_, _] mX12_fresh dX12_unlike_40 lX12_119 wX12_fresh kC12 hu rfl (by first | rfl | assumption) rfl rfl rfl (gX12_fresh hu eg hg b2 1 hb2 (by decide)) (by decide) ?_
      refine kv_ixor dX12_unlike_43 ?_
      refine kw_Si [_] mX12_bits dX12_unlike_44 lX12_149 wX12_bits rfl rfl rfl (qX12_bits (by exact hu) _) (by decide) ?_
      refine kv_imul dX12_unlike_47 ?_
      refine kv_iadd dX12_unlike_48 ?_
      refine kv_istore_n (ls2 := [_, _, _, _, _]) dX12_unlike_49 rfl rfl rfl rfl ?_
      refine kv_iinc (ls2 := [_, _, _, _, _]) dX12_unlike_50 (2 : Int32) rfl rfl rfl rfl rfl rfl ?_
      refine kv_goto dX12_unlike_53 20 (by decide) ?_
      refine kv_iload dX12_unlike_20 rfl ?_
      refine kv_iconst dX12_unlike_22 2 ki_2 ?_
      refine kv_icmp_ge dX12_unlike_23 56 (by decide) (fun h3 => ?_) (fun h3 => ?_)
      · refine kv_iload_n dX12_unlike_56 rfl ?_
        exact kv_iret dX12_unlike_57 rfl ⟨congrArg (fun z => some (Value.int z)) (kD_m hg hb1 hb2), rfl⟩
      · exact absurd h3 (by decide)

set_option maxRecDepth 20000 in
set_option maxHeartbeats 4000000 in
theorem qX8_likest {w : KW} {l : Launch} {u : KMem} (hu : kWd u) {g : Nat → Int32} (hr : kRS 1 g u) (hg : kGI g) (x m : Nat) (hx : x < kN g 2) (hm : m < 2147483648) : KC w l mX8_likest 2 0 0 [.ref 394, .int (nI x), .int (nI m)] u (fun r v => r = some (.int (nI (kLkV g x m))) ∧ kEq kS5k u v) := by
  have hx20 := (hg.cnt (k := 2) rfl).2
  refine KC.of (ls := [_, _, _, _, _, _]) rfl rfl (Nat.le_of_ble_eq_true rfl) ?_
  refine kv_iconst dX8_likest_0 0 ki_0 ?_
  refine kv_istore_n (ls2 := [_, _, _, _, _, _]) dX8_likest_1 rfl rfl rfl rfl ?_
  refine KV.loc (ls2 := [some (.ref 394), some (.int (nI x)), some (.int (nI m)), some (.int (nI (0))), none, none]) ?_ (ksS rfl (ksS rfl (ksS rfl (ksS rfl (ks0 (ks0 ksN))))))
  refine kn_loop (P := fun i => ∀ v : KMem, kEq kS5k u v → (∀ k, k < i → v.2.1 395 k = nI (kKy g x k)) → KV w l mX8_likest 2 0 0 2 [some (.ref 394), some (.int (nI x)), some (.int (nI m)), some (.int (nI i)), none, none] [] v (fun r v => r = some (.int (nI (kLkV g x m))) ∧ kEq kS5k u v)) (x) ?_ (fun i hi ih => ?_) u kEq.rf (fun k hk => absurd hk (Nat.not_lt_zero k))
  · intro v E hK
    have hv := E.wd hu
    have hrv : kRS 1 g v := hr.of (fun a k h1 h2 => E.2.2.1 a k (by unfold kS5k; omega)) hg
    refine kv_iload_n dX8_likest_2 rfl ?_
    refine kv_iload_n dX8_likest_3 rfl ?_
    refine kv_icmp_ge dX8_likest_4 36 (by decide) (fun h1 => ?_) (fun h1 => ?_)
    · refine kv_iconst dX8_likest_36 0 ki_0 ?_
      refine kv_istore_n (ls2 := [_, _, _, _, _, _]) dX8_likest_37 rfl rfl rfl rfl ?_
      refine KV.loc (ls2 := [some (.ref 394), some (.int (nI x)), some (.int (nI m)), some (.int (nI (0))), none, none]) ?_ (ksS rfl (ksS rfl (ksS rfl (ksS rfl (ks0 (ks0 ksN))))))
      refine kn_loop (P := fun i => (kLkV g x m = kLkA (kKy g x) x m (x - i) i → KV w l mX8_likest 2 0 0 38 [some (.ref 394), some (.int (nI x)), some (.int (nI m)), some (.int (nI i)), none, none] [] v (fun r v => r = some (.int (nI (kLkV g x m))) ∧ kEq kS5k u v))) (x) ?_ (fun i hi ih => ?_) rfl
      · intro hF
        rw [Nat.sub_self] at hF
        refine kv_iload_n dX8_likest_38 rfl ?_
        refine kv_iload_n dX8_likest_39 rfl ?_
        refine kv_icmp_ge dX8_likest_40 107 (by decide) (fun h2 => ?_) (fun h2 => ?_)
        · refine kv_iconst dX8_likest_107 0 ki_0 ?_
          exact kv_iret dX8_likest_108 rfl ⟨by rw [hF]; rfl, E⟩
        · exact absurd h2 (fun q => q (Int32.le_refl _))
      · have ihi := ih
        intro hF
        have hF2 : kLkV g x m = if kCnt (kKy g x) i x = m then i else kLkA (kKy g x) x m (x - (i + 1)) (i + 1) := by
          rw [hF, show x - i = x - (i + 1) + 1 by omega]
          rfl
        have hdi := kD_lt hg hx (show i < kN g 2 by omega)
        have hki : kKy g x i < 100000 := by unfold kKy; omega
        refine kv_iload_n dX8_likest_38 rfl ?_
        refine kv_iload_n dX8_likest_39 rfl ?_
        refine kv_icmp_ge dX8_likest_40 107 (by decide) (fun h3 => ?_) (fun h3 => ?_)
        · exact absurd h3 (kn_ge hi (by omega))
        · refine kv_iload_n dX8_likest_43 rfl ?_
          refine kv_bipush dX8_likest_44 20 kb_20 ?_
          refine kv_icmp_ge dX8_likest_46 107 (by decide) (fun h4 => ?_) (fun h4 => ?_)
          · exact absurd h4 (kn_ge (n := 20) (by omega) (by omega))
          · refine kv_iconst dX8_likest_49 0 ki_0 ?_
            refine kv_istore (ls2 := [_, _, _, _, _, _]) dX8_likest_50 rfl rfl rfl rfl ?_
            refine kv_iconst dX8_likest_52 0 ki_0 ?_
            refine kv_istore (ls2 := [_, _, _, _, _, _]) dX8_likest_53 rfl rfl rfl rfl ?_
            refine KV.loc (ls2 := [some (.ref 394), some (.int (nI x)), some (.int (nI m)), some (.int (nI i)), some (.int (nI (kCnt (kKy g x) i (0)))), some (.int (nI (0)))]) ?_ (ksS rfl (ksS rfl (ksS rfl (ksS rfl (ksS rfl (ksS rfl ksN))))))
            refine kn_loop (P := fun j => KV w l mX8_likest 2 0 0 55 [some (.ref 394), some (.int (nI x)), some (.int (nI m)), some (.int (nI i)), some (.int (nI (kCnt (kKy g x) i j))), some (.int (nI j))] [] v (fun r v => r = some (.int (nI (kLkV g x m))) ∧ kEq kS5k u v)) (x) ?_ (fun j hj ih => ?_)
            · have hcl := kCnt_le (kKy g x) i x
              refine kv_iload dX8_likest_55 rfl ?_
              refine kv_iload_n dX8_likest_57 rfl ?_
              refine kv_icmp_ge dX8_likest_58 93 (by decide) (fun h5 => ?_) (fun h5 => ?_)
              · refine kv_iload dX8_likest_93 rfl ?_
                refine kv_iload_n dX8_likest_95 rfl ?_
                refine kv_icmp_ne dX8_likest_96 101 (by decide) (fun h6 => ?_) (fun h6 => ?_)
                · have hne : ¬ kCnt (kKy g x) i x = m := fun q => h6 (by rw [q])
                  refine kv_iinc (ls2 := [_, _, _, _, _, _]) dX8_likest_101 (nI (i + 1)) rfl (kv_inc1 i) rfl rfl rfl rfl ?_
                  refine kv_goto dX8_likest_104 38 (by decide) ?_
                  have hG := hF2
                  rw [if_neg hne] at hG
                  exact KV.loc (ihi hG) (ksS rfl (ksS rfl (ksS rfl (ksS rfl (ks0 (ks0 ksN))))))
                · have he : kCnt (kKy g x) i x = m := (nI_eq (by omega) (by omega)).mp h6
                  refine kv_iload_n dX8_likest_99 rfl ?_
                  exact kv_iret dX8_likest_100 rfl ⟨by rw [hF2, if_pos he], E⟩
              · exact absurd h5 (fun q => q (Int32.le_refl _))
            · have hdj := kD_lt hg hx (show j < kN g 2 by omega)
              have hkj : kKy g x j < 100000 := by unfold kKy; omega
              have e1 : kCnt (kKy g x) i (j + 1) = kCnt (kKy g x) i j + (if kKy g x j < kKy g x i then 1 else 0) := rfl
              refine kv_iload dX8_likest_55 rfl ?_
              refine kv_iload_n dX8_likest_57 rfl ?_
              refine kv_icmp_ge dX8_likest_58 93 (by decide) (fun h7 => ?_) (fun h7 => ?_)
              · exact absurd h7 (kn_ge hj (by omega))
              · refine kv_iload dX8_likest_61 rfl ?_
                refine kv_bipush dX8_likest_63 20 kb_20 ?_
                refine kv_icmp_ge dX8_likest_65 93 (by decide) (fun h8 => ?_) (fun h8 => ?_)
                · exact absurd h8 (kn_ge (n := 20) (by omega) (by omega))
                · refine kv_aload_n dX8_likest_68 rfl ?_
                  refine kw_gR dX8_likest_69 fX8_9 hv (by first | rfl | assumption) rfl rfl (by first | rfl | assumption) ?_
                  refine kv_iload dX8_likest_72 rfl ?_
                  refine kw_il dX8_likest_74 hv (by first | rfl | assumption) (j) rfl (by omega) rfl ?_
                  rw [hK j (by omega)]
                  refine kv_aload_n dX8_likest_75 rfl ?_
                  refine kw_gR dX8_likest_76 fX8_9 hv (by first | rfl | assumption) rfl rfl (by first | rfl | assumption) ?_
                  refine kv_iload_n dX8_likest_79 rfl ?_
                  refine kw_il dX8_likest_80 hv (by first | rfl | assumption) (i) rfl (by omega) rfl ?_
                  rw [hK i (by omega)]
                  refine kv_icmp_ge dX8_likest_81 87 (by decide) (fun h9 => ?_) (fun h9 => ?_)
                  · have hc : ¬ kKy g x j < kKy g x i := fun q => nI_ge q (by omega) h9
                    refine kv_iinc (ls2 := [_, _, _, _, _, _]) dX8_likest_87 (nI (j + 1)) rfl (kv_inc1 j) rfl rfl rfl rfl ?_
                    refine kv_goto dX8_likest_90 55 (by decide) ?_
                    exact KV.loc ih (ksS (by first | rfl | exact congrArg (fun z => some (Value.int z)) ((kv_inc1 _).trans (congrArg nI (by rw [e1, if_pos hc]))) | exact congrArg (fun z => some (Value.int (nI z))) (by rw [e1, if_neg hc, Nat.add_zero])) (ksS (by first | rfl | exact congrArg (fun z => some (Value.int z)) ((kv_inc1 _).trans (congrArg nI (by rw [e1, if_pos hc]))) | exact congrArg (fun z => some (Value.int (nI z))) (by rw [e1, if_neg hc, Nat.add_zero])) (ksS (by first | rfl | exact congrArg (fun z => some (Value.int z)) ((kv_inc1 _).trans (congrArg nI (by rw [e1, if_pos hc]))) | exact congrArg (fun z => some (Value.int (nI z))) (by rw [e1, if_neg hc, Nat.add_zero])) (ksS (by first | rfl | exact congrArg (fun z => some (Value.int z)) ((kv_inc1 _).trans (congrArg nI (by rw [e1, if_pos hc]))) | exact congrArg (fun z => some (Value.int (nI z))) (by rw [e1, if_neg hc, Nat.add_zero])) (ksS (by first | rfl | exact congrArg (fun z => some (Value.int z)) ((kv_inc1 _).trans (congrArg nI (by rw [e1, if_pos hc]))) | exact congrArg (fun z => some (Value.int (nI z))) (by rw [e1, if_neg hc, Nat.add_zero])) (ksS (by first | rfl | exact congrArg (fun z => some (Value.int z)) ((kv_inc1 _).trans (congrArg nI (by rw [e1, if_pos hc]))) | exact congrArg (fun z => some (Value.int (nI z))) (by rw [e1, if_neg hc, Nat.add_zero])) ksN))))))
                  · have hc : kKy g x j < kKy g x i := Nat.lt_of_not_le (fun q => h9 (nI_le q (by omega)))
                    refine kv_iinc (ls2 := [_, _, _, _, _, _]) dX8_likest_84 _ rfl rfl rfl rfl rfl rfl ?_
                    refine kv_iinc (ls2 := [_, _, _, _, _, _]) dX8_likest_87 (nI (j + 1)) rfl (kv_inc1 j) rfl rfl rfl rfl ?_
                    refine kv_goto dX8_likest_90 55 (by decide) ?_
                    exact KV.loc ih (ksS (by first | rfl | exact congrArg (fun z => some (Value.int z)) ((kv_inc1 _).trans (congrArg nI (by rw [e1, if_pos hc]))) | exact congrArg (fun z => some (Value.int (nI z))) (by rw [e1, if_neg hc, Nat.add_zero])) (ksS (by first | rfl | exact congrArg (fun z => some (Value.int z)) ((kv_inc1 _).trans (congrArg nI (by rw [e1, if_pos hc]))) | exact congrArg (fun z => some (Value.int (nI z))) (by rw [e1, if_neg hc, Nat.add_zero])) (ksS (by first | rfl | exact congrArg (fun z => some (Value.int z)) ((kv_inc1 _).trans (congrArg nI (by rw [e1, if_pos hc]))) | exact congrArg (fun z => some (Value.int (nI z))) (by rw [e1, if_neg hc, Nat.add_zero])) (ksS (by first | rfl | exact congrArg (fun z => some (Value.int z)) ((kv_inc1 _).trans (congrArg nI (by rw [e1, if_pos hc]))) | exact congrArg (fun z => some (Value.int (nI z))) (by rw [e1, if_neg hc, Nat.add_zero])) (ksS (by first | rfl | exact congrArg (fun z => some (Value.int z)) ((kv_inc1 _).trans (congrArg nI (by rw [e1, if_pos hc]))) | exact congrArg (fun z => some (Value.int (nI z))) (by rw [e1, if_neg hc, Nat.add_zero])) (ksS (by first | rfl | exact congrArg (fun z => some (Value.int z)) ((kv_inc1 _).trans (congrArg nI (by rw [e1, if_pos hc]))) | exact congrArg (fun z => some (Value.int (nI z))) (by rw [e1, if_neg hc, Nat.add_zero])) ksN))))))
    · exact absurd h1 (fun q => q (Int32.le_refl _))
  · intro v E hK
    have hv := E.wd hu
    have hrv : kRS 1 g v := hr.of (fun a k h1 h2 => E.2.2.1 a k (by unfold kS5k; omega)) hg
    have hdl := kD_lt hg hx (show i < kN g 2 by omega)
    refine kv_iload_n dX8_likest_2 rfl ?_
    refine kv_iload_n dX8_likest_3 rfl ?_
    refine kv_icmp_ge dX8_likest_4 36 (by decide) (fun h10 => ?_) (fun h10 => ?_)
    · exact absurd h10 (kn_ge hi (by omega))
    · refine kv_iload_n dX8_likest_7 rfl ?_
      refine kv_bipush dX8_likest_8 20 kb_20 ?_
      refine kv_icmp_ge dX8_likest_10 36 (by decide) (fun h11 => ?_) (fun h11 => ?_)
      · exact absurd h11 (kn_ge (n := 20) (by omega) (by omega))
      · refine kv_aload_n dX8_likest_13 rfl ?_
        refine kw_gR dX8_likest_14 fX8_9 hv (by first | rfl | assumption) rfl rfl (by first | rfl | assumption) ?_
        refine kv_iload_n dX8_likest_17 rfl ?_
        refine kv_aload_n dX8_likest_18 rfl ?_
        refine kv_iload_n dX8_likest_19 rfl ?_
        refine kv_iload_n dX8_likest_20 rfl ?_
        refine kw_Vi [_, _] mX8_unlike dX8_likest_21 lX8_48 wX8_unlike kC8 hv rfl (by first | rfl | assumption) rfl rfl rfl (qX8_unlike hv hrv hg x i hx (by omega)) (by decide) ?_
        refine kv_bipush dX8_likest_24 20 kb_20 ?_
        refine kv_imul dX8_likest_26 ?_
        refine kv_iload_n dX8_likest_27 rfl ?_
        refine kv_iadd dX8_likest_28 ?_
        refine kw_is dX8_likest_29 hv (by first | rfl | assumption) (i) rfl (by omega) rfl ?_
        refine kv_iinc (ls2 := [_, _, _, _, _, _]) dX8_likest_30 (nI (i + 1)) rfl (kv_inc1 i) rfl rfl rfl rfl ?_
        refine kv_goto dX8_likest_33 2 (by decide) ?_
        refine KV.loc (ih _ (E.si rfl) (fun k hk => ?_)) (ksS rfl (ksS rfl (ksS rfl (ksS rfl (ks0 (ks0 ksN))))))
        by_cases q : k = i
        · rw [q, kv_si_s]; exact kn_add (kn_mul rfl (show (20 : Int32) = nI 20 from rfl)) rfl
        · rw [kv_si_n (by omega)]; exact hK k (by omega)

set_option maxRecDepth 20000 in
set_option maxHeartbeats 4000000 in
theorem qX11_like {w : KW} {l : Launch} {u : KMem} (hu : kWd u) {a : KA} (hx : kRX a u) (ho : kOk a) (p0 p1 p2 : Int32) : KC w l mX11_like 3 0 0 [.ref 0, .int p0, .int p1, .int p2] u (kOX u (klike a p0 p1 p2).1 (klike a p0 p1 p2).2) := by
  have hr := hx.1
  have hg := ho.1
  have hx20 := (hg.cnt (k := 2) rfl).2
  have hc30 := (hg.cnt (k := 0) rfl).2
  have ht10 := (hg.cnt (k := 3) rfl).2
  have he40 := (hg.cnt (k := 4) rfl).2
  have hs16 := hg.cnt (k := 1) rfl
  refine KC.of (ls := [_, _, _, _, _]) rfl rfl (Nat.le_of_ble_eq_true rfl) ?_
  refine kv_aload_n dX11_like_0 rfl ?_
  refine kv_iload_n dX11_like_1 rfl ?_
  refine kw_Vi [_] mX11_noCrash dX11_like_2 lX11_151 wX11_noCrash kC11 hu rfl (by first | rfl | assumption) rfl rfl rfl (qX11_noCrash (by exact hu) _) (by decide) ?_
  refine kw_bne dX11_like_5 21 (by decide) (fun h1 => ?_) (fun h1 => ?_)
  · rw [hr.n2] at h1
    have hS : klike a p0 p1 p2 = (-1000001, kF a 1) := if_pos (Or.inl h1)
    refine kv_aload_n dX11_like_21 rfl ?_
    refine kv_ldc dX11_like_22 kX11_74 ?_
    refine kw_Vi [_] mX11_refuse dX11_like_24 lX11_75 wX11_refuse kC11 hu rfl (by first | rfl | assumption) rfl rfl rfl (qX11_refuse (by exact hu) 1 (by decide) (by decide) _ (by decide)) (by decide) ?_
    exact kv_iret dX11_like_27 rfl (by rw [hS]; exact kOX.no hx ho hu (by decide) rfl)
  · rw [hr.n2] at h1
    have n1 : ¬ kOut p0 0 (a 0 2 - 1) := h1
    refine kv_iload_n dX11_like_8 rfl ?_
    refine kv_if_lt dX11_like_9 21 (by decide) (fun h2 => ?_) (fun h2 => ?_)
    · have hS : klike a p0 p1 p2 = (-1000001, kF a 1) := if_pos (Or.inr (Or.inl h2))
      refine kv_aload_n dX11_like_21 rfl ?_
      refine kv_ldc dX11_like_22 kX11_74 ?_
      refine kw_Vi [_] mX11_refuse dX11_like_24 lX11_75 wX11_refuse kC11 hu rfl (by first | rfl | assumption) rfl rfl rfl (qX11_refuse (by exact hu) 1 (by decide) (by decide) _ (by decide)) (by decide) ?_
      exact kv_iret dX11_like_27 rfl (by rw [hS]; exact kOX.no hx ho hu (by decide) rfl)
    · have n2 : ¬ p1 < 0 := h2
      refine kv_iload_n dX11_like_12 rfl ?_
      refine kv_iconst dX11_like_13 0 ki_0 ?_
      refine kv_iconst dX11_like_14 1 ki_1 ?_
      refine kw_Si [_, _, _] mX11_outside dX11_like_15 lX11_69 wX11_outside rfl rfl rfl (qX11_outside (by exact hu) _ _ _) (by decide) ?_
      refine kw_beq dX11_like_18 28 (by decide) (fun h3 => ?_) (fun h3 => ?_)
      · have n3 : ¬ kOut p2 0 1 := h3
        have hS : klike a p0 p1 p2 = _ := if_neg (fun q => q.elim n1 (fun q => q.elim n2 n3))
        obtain ⟨x, hx2, rfl⟩ := hg.at (k := 2) rfl n1
        obtain ⟨m, hm31, rfl⟩ := nI_of n2
        rw [nI_clamp (by omega), nI_clamp hm31] at hS
        refine kv_iload_n dX11_like_28 rfl ?_
        refine kv_iload_n dX11_like_29 rfl ?_
        refine kv_icmp_lt dX11_like_30 40 (by decide) (fun h4 => ?_) (fun h4 => ?_)
        · rw [if_pos h4] at hS
          have hmx : m < x := (nI_ltI hm31 (by omega)).mp h4
          have hlk : kLkV (a 0) x m < x := kLkA_lt (by omega) x 0 (by omega)
          refine kv_aload_n dX11_like_40 rfl ?_
          refine kw_gR dX11_like_41 fX11_47 hu (by first | rfl | assumption) rfl rfl (by first | rfl | assumption) ?_
          refine kv_iload_n dX11_like_44 rfl ?_
          refine kv_iload_n dX11_like_45 rfl ?_
          refine kw_VQ [_, _] mX8_likest dX11_like_46 lX11_341 wX8_likest kC8 hu rfl (by first | rfl | assumption) rfl rfl rfl (qX8_likest hu hr hg x m hx2 hm31) (by decide) (fun _ v1 q1 => ?_)
          obtain ⟨rfl, e0⟩ := q1
          have e1 : kEq kSX u v1 := e0.wk (fun a k q => Or.inl (by unfold kS5k at q; omega))
          have hr1 := hr.eqX hg e1
          have hu1 := e1.wd hu
          have E1 := e1
          refine kv_istore (ls2 := [_, _, _, _, _]) dX11_like_49 rfl rfl rfl rfl ?_
          refine kv_iload_n dX11_like_51 rfl ?_
          refine kv_if_ne dX11_like_52 60 (by decide) (fun h5 => ?_) (fun h5 => ?_)
          · rw [if_neg h5] at hS
            refine kv_aload_n dX11_like_60 rfl ?_
            refine kw_gR dX11_like_61 fX11_47 hu1 (by first | rfl | assumption) rfl rfl (by first | rfl | assumption) ?_
            refine kv_iload_n dX11_like_64 rfl ?_
            refine kv_iload dX11_like_65 rfl ?_
            refine kw_Vi [_, _] mX8_unlike dX11_like_67 lX11_344 wX8_unlike kC8 hu1 rfl (by first | rfl | assumption) rfl rfl rfl (qX8_unlike hu1 hr1 hg x (kLkV (a 0) x m) hx2 (by omega)) (by decide) ?_
            exact kv_iret dX11_like_70 rfl (by rw [hS]; exact kOX.id hx ho hu E1 rfl)
          · rw [if_pos h5] at hS
            refine kv_iload dX11_like_55 rfl ?_
            refine kv_goto dX11_like_57 70 (by decide) ?_
            exact kv_iret dX11_like_70 rfl (by rw [hS]; exact kOX.id hx ho hu E1 rfl)
        · rw [if_neg h4] at hS
          refine kv_aload_n dX11_like_33 rfl ?_
          refine kv_ldc dX11_like_34 kX11_248 ?_
          refine kw_Vi [_] mX11_refuse dX11_like_36 lX11_75 wX11_refuse kC11 hu rfl (by first | rfl | assumption) rfl rfl rfl (qX11_refuse (by exact hu) 2 (by decide) (by decide) _ (by decide)) (by decide) ?_
          exact kv_iret dX11_like_39 rfl (by rw [hS]; exact kOX.no hx ho hu (by decide) rfl)
      · have hS : klike a p0 p1 p2 = (-1000001, kF a 1) := if_pos (Or.inr (Or.inr (h3)))
        refine kv_aload_n dX11_like_21 rfl ?_
        refine kv_ldc dX11_like_22 kX11_74 ?_
        refine kw_Vi [_] mX11_refuse dX11_like_24 lX11_75 wX11_refuse kC11 hu rfl (by first | rfl | assumption) rfl rfl rfl (qX11_refuse (by exact hu) 1 (by decide) (by decide) _ (by decide)) (by decide) ?_
        exact kv_iret dX11_like_27 rfl (by rw [hS]; exact kOX.no hx ho hu (by decide) rfl)

theorem kn_dec1 {n : Nat} (h : 1 ≤ n) : nI n + Int32.ofInt (-1) = nI (n - 1) := (kn_m1 n).trans (kn_sub rfl (show (1 : Int32) = nI 1 from rfl) h)
set_option maxRecDepth 20000 in
set_option maxHeartbeats 4000000 in
theorem qX12_like {w : KW} {l : Launch} {u : KMem} (hu : kWd u) {a : KA} (hm : kRM a u) (ho : kOk a) (p0 p1 p2 : Int32) : KC w l mX12_like 4 0 0 [.ref 413, .int p0, .int p1, .int p2] u (kOM u (klike a p0 p1 p2).1 (klike a p0 p1 p2).2) := by
  have eg := hm.1
  have hg := ho.1
  have hx20 := (hg.cnt (k := 2) rfl).2
  have hc30 := (hg.cnt (k := 0) rfl).2
  have ht10 := (hg.cnt (k := 3) rfl).2
  have he40 := (hg.cnt (k := 4) rfl).2
  have hs16 := hg.cnt (k := 1) rfl
  refine KC.of (ls := [_, _, _, _, _, _]) rfl rfl (Nat.le_of_ble_eq_true rfl) ?_
  refine kv_aload_n dX12_like_0 rfl ?_
  refine kv_iload_n dX12_like_1 rfl ?_
  refine kv_iconst dX12_like_2 2 ki_2 ?_
  refine kw_Vi [_, _] mX12_is dX12_like_3 lX12_93 wX12_is kC12 hu rfl (by first | rfl | assumption) rfl rfl rfl (gX12_is hu eg _ 2 (by omega)) (by decide) ?_
  refine kw_beq dX12_like_6 22 (by decide) (fun h1 => ?_) (fun h1 => ?_)
  · have hS : klike a p0 p1 p2 = (-1000001, kF a 1) := if_pos (Or.inl (kIn_n h1))
    refine kv_aload_n dX12_like_22 rfl ?_
    refine kv_ldc dX12_like_23 kX12_83 ?_
    refine kw_Vi [_] mX12_finding dX12_like_25 lX12_84 wX12_finding kC12 hu rfl (by first | rfl | assumption) rfl rfl rfl (qX12_finding (by exact hu) 1 (by decide) (by decide) _ (by decide)) (by decide) ?_
    exact kv_iret dX12_like_28 rfl (by rw [hS]; exact kOM.no hm hu rfl)
  · have n1 : ¬ kOut p0 0 (a 0 2 - 1) := kIn_y h1
    refine kv_iload_n dX12_like_9 rfl ?_
    refine kv_if_lt dX12_like_10 22 (by decide) (fun h2 => ?_) (fun h2 => ?_)
    · have hS : klike a p0 p1 p2 = (-1000001, kF a 1) := if_pos (Or.inr (Or.inl h2))
      refine kv_aload_n dX12_like_22 rfl ?_
      refine kv_ldc dX12_like_23 kX12_83 ?_
      refine kw_Vi [_] mX12_finding dX12_like_25 lX12_84 wX12_finding kC12 hu rfl (by first | rfl | assumption) rfl rfl rfl (qX12_finding (by exact hu) 1 (by decide) (by decide) _ (by decide)) (by decide) ?_
      exact kv_iret dX12_like_28 rfl (by rw [hS]; exact kOM.no hm hu rfl)
    · have n2 : ¬ p1 < 0 := h2
      refine kv_iload_n dX12_like_13 rfl ?_
      refine kv_iconst dX12_like_14 0 ki_0 ?_
      refine kv_iconst dX12_like_15 1 ki_1 ?_
      refine kw_Si [_, _, _] mX12_within dX12_like_16 lX12_78 wX12_within rfl rfl rfl (qX12_within (by exact hu) _ _ _) (by decide) ?_
      refine kw_bne dX12_like_19 29 (by decide) (fun h3 => ?_) (fun h3 => ?_)
      · have n3 : ¬ kOut p2 0 1 := kIn_y h3
        have hS : klike a p0 p1 p2 = _ := if_neg (fun q => q.elim n1 (fun q => q.elim n2 n3))
        obtain ⟨x, hx2, rfl⟩ := hg.at (k := 2) rfl n1
        obtain ⟨m, hm31, rfl⟩ := nI_of n2
        rw [nI_clamp (by omega), nI_clamp hm31] at hS
        refine kv_iload_n dX12_like_29 rfl ?_
        refine kv_iload_n dX12_like_30 rfl ?_
        refine kv_icmp_lt dX12_like_31 42 (by decide) (fun h4 => ?_) (fun h4 => ?_)
        · rw [if_pos h4] at hS
          have hmx : m < x := (nI_ltI hm31 (by omega)).mp h4
          have hlk : kLkV (a 0) x m < x := kLkA_lt (by omega) x 0 (by omega)
          refine kv_iconst dX12_like_42 0 ki_0 ?_
          refine kv_istore (ls2 := [_, _, _, _, _, _]) dX12_like_43 rfl rfl rfl rfl ?_
          refine KV.loc (ls2 := [some (.ref 413), some (.int (nI x)), some (.int (nI m)), some (.int p2), some (.int (nI (0))), none]) ?_ (ksS rfl (ksS rfl (ksS rfl (ksS rfl (ksS rfl (ks0 ksN))))))
          refine kn_loop (P := fun k => ∀ (v : KMem) (A : Nat → Nat), kEq kS24 u v → (∀ p, p < k → v.2.1 424 p = nI (A p)) → kSrt (kKy (a 0) x) A k → KV w l mX12_like 4 0 0 45 [some (.ref 413), some (.int (nI x)), some (.int (nI m)), some (.int p2), some (.int (nI k)), none] [] v (kOM u (klike a (nI x) (nI m) p2).1 (klike a (nI x) (nI m) p2).2)) (x) ?_ (fun k hk ih => ?_) u (fun _ => 0) kEq.rf (fun p hp => absurd hp (Nat.not_lt_zero p)) (fun p hp => absurd hp (Nat.not_lt_zero p))
          · intro v A E hR hA
            have hv := E.wd hu
            have egv : v.2.1 414 = a 0 := (E.row kS24_now).trans eg
            have hAm := hA m hmx
            have hLA : A m = kLkV (a 0) x m := (kLkA_is hAm.1 hAm.2 (fun i hi q => kKy_inj (by omega) (by omega) q) x 0 (by omega) (Nat.zero_le _)).symm
            refine kv_iload dX12_like_45 rfl ?_
            refine kv_iload_n dX12_like_47 rfl ?_
            refine kv_icmp_ge dX12_like_48 121 (by decide) (fun h5 => ?_) (fun h5 => ?_)
            · refine kv_iload_n dX12_like_121 rfl ?_
              refine kv_if_ne dX12_like_122 134 (by decide) (fun h6 => ?_) (fun h6 => ?_)
              · rw [if_neg h6] at hS
                refine kv_aload_n dX12_like_134 rfl ?_
                refine kv_aload_n dX12_like_135 rfl ?_
                refine kw_gR dX12_like_136 fX12_50 hv (by first | rfl | assumption) rfl rfl (by first | rfl | assumption) ?_
                refine kv_iload_n dX12_like_139 rfl ?_
                refine kw_il dX12_like_140 hv (by first | rfl | assumption) (m) rfl (by omega) rfl ?_
                rw [hR m hmx, hLA]
                refine kv_iload_n dX12_like_141 rfl ?_
                refine kw_Vi [_, _] mX12_unlike dX12_like_142 lX12_330 wX12_unlike kC12 hv rfl (by first | rfl | assumption) rfl rfl rfl (qX12_unlike hv egv hg (kLkV (a 0) x m) x (by omega) hx2) (by decide) ?_
                rw [kD_sym]
                exact kv_iret dX12_like_145 rfl (by rw [hS]; exact kOM.id hm hu (E.wk (fun a k q => Or.inl (by unfold kS24 at q; omega))) rfl)
              · rw [if_pos h6] at hS
                refine kv_aload_n dX12_like_125 rfl ?_
                refine kw_gR dX12_like_126 fX12_50 hv (by first | rfl | assumption) rfl rfl (by first | rfl | assumption) ?_
                refine kv_iload_n dX12_like_129 rfl ?_
                refine kw_il dX12_like_130 hv (by first | rfl | assumption) (m) rfl (by omega) rfl ?_
                rw [hR m hmx, hLA]
                refine kv_goto dX12_like_131 145 (by decide) ?_
                exact kv_iret dX12_like_145 rfl (by rw [hS]; exact kOM.id hm hu (E.wk (fun a k q => Or.inl (by unfold kS24 at q; omega))) rfl)
            · exact absurd h5 (fun q => q (Int32.le_refl _))
          · have ihk := ih
            intro v A E hR hA
            have hv := E.wd hu
            have egv : v.2.1 414 = a 0 := (E.row kS24_now).trans eg
            refine kv_iload dX12_like_45 rfl ?_
            refine kv_iload_n dX12_like_47 rfl ?_
            refine kv_icmp_ge dX12_like_48 121 (by decide) (fun h7 => ?_) (fun h7 => ?_)
            · exact absurd h7 (kn_ge hk (by omega))
            · refine kv_iload dX12_like_51 rfl ?_
              refine kv_istore (ls2 := [_, _, _, _, _, _]) dX12_like_53 rfl rfl rfl rfl ?_
              refine KV.loc (ls2 := [some (.ref 413), some (.int (nI x)), some (.int (nI m)), some (.int p2), some (.int (nI k)), some (.int (nI (k - 0)))]) ?_ (ksS rfl (ksS rfl (ksS rfl (ksS rfl (ksS rfl (ksS rfl ksN))))))
              refine kn_loop (P := fun t => ∀ v : KMem, kEq kS24 u v → (∀ p, p < k - t → v.2.1 424 p = nI (A p)) → (∀ p, k - t ≤ p → p < k → v.2.1 424 (p + 1) = nI (A p) ∧ kD (a 0) x k < kD (a 0) x (A p)) → KV w l mX12_like 4 0 0 55 [some (.ref 413), some (.int (nI x)), some (.int (nI m)), some (.int p2), some (.int (nI k)), some (.int (nI (k - t)))] [] v (kOM u (klike a (nI x) (nI m) p2).1 (klike a (nI x) (nI m) p2).2)) (k) ?_ (fun t ht ih => ?_) v E hR (fun p h1 h2 => absurd h2 (by omega))
              · intro v E hlo hhi
                have hv := E.wd hu
                have egv : v.2.1 414 = a 0 := (E.row kS24_now).trans eg
                obtain ⟨at_, hat⟩ : ∃ at_, at_ = k - k := ⟨_, rfl⟩
                rw [← hat] at hlo hhi ⊢
                have hgt : ∀ p, at_ ≤ p → p < k → kKy (a 0) x k < kKy (a 0) x (A p) := fun p h1 h2 => by
                  have h3 := (hhi p h1 h2).2
                  have h4 := (hA p h2).1
                  unfold kKy
                  omega
                have hle : 0 < at_ → kKy (a 0) x (A (at_ - 1)) < kKy (a 0) x k := fun q => absurd q (by omega)
                refine kv_iload dX12_like_55 rfl ?_
                refine kv_if_le dX12_like_57 106 (by decide) (fun h8 => ?_) (fun h8 => ?_)
                · refine kv_aload_n dX12_like_106 rfl ?_
                  refine kw_gR dX12_like_107 fX12_50 hv (by first | rfl | assumption) rfl rfl (by first | rfl | assumption) ?_
                  refine kv_iload dX12_like_110 rfl ?_
                  refine kv_iload dX12_like_112 rfl ?_
                  refine kw_is dX12_like_114 hv (by first | rfl | assumption) (at_) rfl (by omega) rfl ?_
                  refine kv_iinc (ls2 := [_, _, _, _, _, _]) dX12_like_115 (nI (k + 1)) rfl (kv_inc1 k) rfl rfl rfl rfl ?_
                  refine kv_goto dX12_like_118 45 (by decide) ?_
                  refine KV.loc (ihk _ (fun p => if p < at_ then A p else if p = at_ then k else A (p - 1)) (E.si rfl) (fun p hp => ?_) (kSrt_ins hA (at_ := at_) (by omega) hle hgt (fun p hp => if_pos hp) ((if_neg (Nat.lt_irrefl _)).trans (if_pos rfl)) (fun p h1 h2 => (if_neg (by omega)).trans (if_neg (by omega))))) (ksS rfl (ksS rfl (ksS rfl (ksS rfl (ksS rfl (ks0 ksN))))))
                  by_cases q1 : p < at_
                  · rw [kv_si_n (by omega), if_pos q1]; exact hlo p q1
                  · rw [if_neg q1]
                    by_cases q2 : p = at_
                    · rw [q2, kv_si_s, if_pos rfl]
                    · rw [kv_si_n (by omega), if_neg q2]
                      have := hhi (p - 1) (by omega) (by omega)
                      rw [show p - 1 + 1 = p by omega] at this
                      exact this.1
                · exact absurd h8 (fun q => q (by rw [show at_ = 0 by omega]; exact Int32.le_refl _))
              · intro v E hlo hhi
                have hv := E.wd hu
                have egv : v.2.1 414 = a 0 := (E.row kS24_now).trans eg
                obtain ⟨at_, hat⟩ : ∃ at_, at_ = k - t := ⟨_, rfl⟩
                rw [← hat] at hlo hhi ⊢
                have hgt : ∀ p, at_ ≤ p → p < k → kKy (a 0) x k < kKy (a 0) x (A p) := fun p h1 h2 => by
                  have h3 := (hhi p h1 h2).2
                  have h4 := (hA p h2).1
                  unfold kKy
                  omega
                have hAp := hA (at_ - 1) (by omega)
                have d1 := kD_lt hg hx2 (show A (at_ - 1) < kN (a 0) 2 by omega)
                have d2 := kD_lt hg hx2 (show k < kN (a 0) 2 by omega)
                refine kv_iload dX12_like_55 rfl ?_
                refine kv_if_le dX12_like_57 106 (by decide) (fun h9 => ?_) (fun h9 => ?_)
                · exact absurd h9 (nI_ge (a := 0) (by omega) (by omega))
                · refine kv_aload_n dX12_like_60 rfl ?_
                  refine kv_aload_n dX12_like_61 rfl ?_
                  refine kw_gR dX12_like_62 fX12_50 hv (by first | rfl | assumption) rfl rfl (by first | rfl | assumption) ?_
                  refine kv_iload dX12_like_65 rfl ?_
                  refine kv_iconst dX12_like_67 1 ki_1 ?_
                  refine kv_isub dX12_like_68 ?_
                  refine kw_il dX12_like_69 hv (by first | rfl | assumption) (at_ - 1) (kn_sub rfl (show (1 : Int32) = nI 1 from rfl) (by omega)) (by omega) rfl ?_
                  rw [hlo _ (by omega)]
                  refine kv_iload_n dX12_like_70 rfl ?_
                  refine kw_Vi [_, _] mX12_unlike dX12_like_71 lX12_330 wX12_unlike kC12 hv rfl (by first | rfl | assumption) rfl rfl rfl (qX12_unlike hv egv hg (A (at_ - 1)) x (by have := hAp.1; omega) hx2) (by decide) ?_
                  rw [kD_sym]
                  refine kv_aload_n dX12_like_74 rfl ?_
                  refine kv_iload dX12_like_75 rfl ?_
                  refine kv_iload_n dX12_like_77 rfl ?_
                  refine kw_Vi [_, _] mX12_unlike dX12_like_78 lX12_330 wX12_unlike kC12 hv rfl (by first | rfl | assumption) rfl rfl rfl (qX12_unlike hv egv hg k x (by omega) hx2) (by decide) ?_
                  rw [kD_sym (a 0) k x]
                  refine kv_icmp_le dX12_like_81 106 (by decide) (fun h10 => ?_) (fun h10 => ?_)
                  · have hle : 0 < at_ → kKy (a 0) x (A (at_ - 1)) < kKy (a 0) x k := fun _ => by
                      have hh := (nI_leI (by omega) (by omega)).mp h10
                      have h4 := hAp.1
                      unfold kKy
                      omega
                    refine kv_aload_n dX12_like_106 rfl ?_
                    refine kw_gR dX12_like_107 fX12_50 hv (by first | rfl | assumption) rfl rfl (by first | rfl | assumption) ?_
                    refine kv_iload dX12_like_110 rfl ?_
                    refine kv_iload dX12_like_112 rfl ?_
                    refine kw_is dX12_like_114 hv (by first | rfl | assumption) (at_) rfl (by omega) rfl ?_
                    refine kv_iinc (ls2 := [_, _, _, _, _, _]) dX12_like_115 (nI (k + 1)) rfl (kv_inc1 k) rfl rfl rfl rfl ?_
                    refine kv_goto dX12_like_118 45 (by decide) ?_
                    refine KV.loc (ihk _ (fun p => if p < at_ then A p else if p = at_ then k else A (p - 1)) (E.si rfl) (fun p hp => ?_) (kSrt_ins hA (at_ := at_) (by omega) hle hgt (fun p hp => if_pos hp) ((if_neg (Nat.lt_irrefl _)).trans (if_pos rfl)) (fun p h1 h2 => (if_neg (by omega)).trans (if_neg (by omega))))) (ksS rfl (ksS rfl (ksS rfl (ksS rfl (ksS rfl (ks0 ksN))))))
                    by_cases q1 : p < at_
                    · rw [kv_si_n (by omega), if_pos q1]; exact hlo p q1
                    · rw [if_neg q1]
                      by_cases q2 : p = at_
                      · rw [q2, kv_si_s, if_pos rfl]
                      · rw [kv_si_n (by omega), if_neg q2]
                        have := hhi (p - 1) (by omega) (by omega)
                        rw [show p - 1 + 1 = p by omega] at this
                        exact this.1
                  · have hD : kD (a 0) x k < kD (a 0) x (A (at_ - 1)) := Nat.lt_of_not_le (fun q => h10 (nI_le q (by omega)))
                    refine kv_aload_n dX12_like_84 rfl ?_
                    refine kw_gR dX12_like_85 fX12_50 hv (by first | rfl | assumption) rfl rfl (by first | rfl | assumption) ?_
                    refine kv_iload dX12_like_88 rfl ?_
                    refine kv_aload_n dX12_like_90 rfl ?_
                    refine kw_gR dX12_like_91 fX12_50 hv (by first | rfl | assumption) rfl rfl (by first | rfl | assumption) ?_
                    refine kv_iload dX12_like_94 rfl ?_
                    refine kv_iconst dX12_like_96 1 ki_1 ?_
                    refine kv_isub dX12_like_97 ?_
                    refine kw_il dX12_like_98 hv (by first | rfl | assumption) (at_ - 1) (kn_sub rfl (show (1 : Int32) = nI 1 from rfl) (by omega)) (by omega) rfl ?_
                    rw [hlo _ (by omega)]
                    refine kw_is dX12_like_99 hv (by first | rfl | assumption) (at_) rfl (by omega) rfl ?_
                    refine kv_iinc (ls2 := [_, _, _, _, _, _]) dX12_like_100 (nI (k - (t + 1))) rfl ((kn_dec1 (by omega)).trans (congrArg nI (by omega))) rfl rfl rfl rfl ?_
                    refine kv_goto dX12_like_103 55 (by decide) ?_
                    refine KV.loc (ih _ (E.si rfl) (fun p hp => by rw [kv_si_n (by omega)]; exact hlo p (by omega)) (fun p h1 h2 => ?_)) (ksS rfl (ksS rfl (ksS rfl (ksS rfl (ksS rfl (ksS rfl ksN))))))
                    by_cases q : p + 1 = at_
                    · rw [q, kv_si_s, show p = at_ - 1 by omega]; exact ⟨rfl, hD⟩
                    · rw [kv_si_n (by omega)]; exact hhi p (by omega) h2
        · rw [if_neg h4] at hS
          refine kv_aload_n dX12_like_34 rfl ?_
          refine kv_ldcw dX12_like_35 kX12_287 ?_
          refine kw_Vi [_] mX12_finding dX12_like_38 lX12_84 wX12_finding kC12 hu rfl (by first | rfl | assumption) rfl rfl rfl (qX12_finding (by exact hu) 2 (by decide) (by decide) _ (by decide)) (by decide) ?_
          exact kv_iret dX12_like_41 rfl (by rw [hS]; exact kOM.no hm hu rfl)
      · have hS : klike a p0 p1 p2 = (-1000001, kF a 1) := if_pos (Or.inr (Or.inr ((kIn_n h3))))
        refine kv_aload_n dX12_like_22 rfl ?_
        refine kv_ldc dX12_like_23 kX12_83 ?_
        refine kw_Vi [_] mX12_finding dX12_like_25 lX12_84 wX12_finding kC12 hu rfl (by first | rfl | assumption) rfl rfl rfl (qX12_finding (by exact hu) 1 (by decide) (by decide) _ (by decide)) (by decide) ?_
        exact kv_iret dX12_like_28 rfl (by rw [hS]; exact kOM.no hm hu rfl)

theorem klike_ok {a : KA} (ho : kOk a) (p0 p1 p2 : Int32) : kOk (klike a p0 p1 p2).2 := by
  unfold klike
  split
  · exact ho.fnd 1
  · split
    · exact ho
    · exact ho.fnd 2
