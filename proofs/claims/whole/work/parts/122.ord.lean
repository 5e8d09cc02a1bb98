/-! the Sheet's orders -/
def kSWs (s a k : Nat) : Prop := a = 401 + 3 * s + 2
def kPth (D : Nat → Nat → Bool) (m : Nat) : List Nat := kFp D m m 0 (fun _ => true)
set_option maxRecDepth 20000 in
set_option maxHeartbeats 4000000 in
theorem qX6_drivesInto {w : KW} {l : Launch} {u : KMem} (hu : kWd u) (s : Nat) (hs : s < 4) {f : Nat → Int32} (hf : ∀ k, k < 24 → u.2.1 (401 + 3 * s + 1) k = f k) (off : Int32) (c d : Nat) (hc : c < 6) (hd : d < 6) : KC w l mX6_drivesInto 1 0 0 [.ref (401 + 3 * s), .int (nI c), .int (nI d), .int off] u (kq (some (.int (if kDr f off c d = true then 1 else 0))) u) := by
  refine KC.of (ls := [_, _, _, _]) rfl rfl (Nat.le_of_ble_eq_true rfl) ?_
  have ks := ks_sheet s (by omega)
  have ks1 := ks.1
  have ks2 := ks.2.1
  have ks3 := ks.2.2.1
  have ks4 := ks.2.2.2.1
  have ks5 := ks.2.2.2.2.1
  refine kv_aload_n dX6_drivesInto_0 rfl ?_
  refine kw_gR dX6_drivesInto_1 fX6_9 hu (by first | rfl | assumption) rfl rfl (by first | rfl | assumption) ?_
  refine kv_iconst dX6_drivesInto_4 2 ki_2 ?_
  refine kv_iload_n dX6_drivesInto_5 rfl ?_
  refine kv_imul dX6_drivesInto_6 ?_
  refine kw_il dX6_drivesInto_7 hu (by first | rfl | assumption) (2 * c) (kn_mul (show (2 : Int32) = nI 2 from rfl) rfl) (by omega) rfl ?_
  rw [hf _ (by omega)]
  refine kv_i2l dX6_drivesInto_8 ?_
  refine kv_aload_n dX6_drivesInto_9 rfl ?_
  refine kw_gR dX6_drivesInto_10 fX6_9 hu (by first | rfl | assumption) rfl rfl (by first | rfl | assumption) ?_
  refine kv_iconst dX6_drivesInto_13 2 ki_2 ?_
  refine kv_iload_n dX6_drivesInto_14 rfl ?_
  refine kv_imul dX6_drivesInto_15 ?_
  refine kv_iconst dX6_drivesInto_16 1 ki_1 ?_
  refine kv_iadd dX6_drivesInto_17 ?_
  refine kw_il dX6_drivesInto_18 hu (by first | rfl | assumption) (2 * d + 1) (kn_add (kn_mul (show (2 : Int32) = nI 2 from rfl) rfl) (show (1 : Int32) = nI 1 from rfl)) (by omega) rfl ?_
  rw [hf _ (by omega)]
  refine kv_i2l dX6_drivesInto_19 ?_
  refine kv_lsub dX6_drivesInto_20 ?_
  refine kw_mabs_long dX6_drivesInto_21 lX6_49 rfl (by omega) ?_
  refine kv_iload_n dX6_drivesInto_24 rfl ?_
  refine kv_i2l dX6_drivesInto_25 ?_
  refine kv_lcmp dX6_drivesInto_26 ?_
  refine kv_if_gt dX6_drivesInto_27 34 (by decide) (fun h1 => ?_) (fun h1 => ?_)
  · have hq : ¬ kDr f off c d = true := fun q => (of_decide_eq_true q) h1
    refine kv_iconst dX6_drivesInto_34 0 ki_0 ?_
    exact kv_zret dX6_drivesInto_35 rfl kv_z0 ⟨by first | rw [if_pos hq] | rw [if_neg hq], rfl⟩
  · have hq : kDr f off c d = true := decide_eq_true h1
    refine kv_iconst dX6_drivesInto_30 1 ki_1 ?_
    refine kv_goto dX6_drivesInto_31 35 (by decide) ?_
    exact kv_zret dX6_drivesInto_35 rfl kv_z1 ⟨by first | rw [if_pos hq] | rw [if_neg hq], rfl⟩

set_option maxRecDepth 20000 in
set_option maxHeartbeats 4000000 in
theorem qX6_cars {w : KW} {l : Launch} {u : KMem} (hu : kWd u) (s : Nat) (hs : s < 4) {m : Nat} (hm : m ≤ 6) (hl : u.2.1 (401 + 3 * s) 2 = nI (2 * m)) : KC w l mX6_cars 1 0 0 [.ref (401 + 3 * s)] u (kq (some (.int (nI m))) u) := by
  refine KC.of (ls := [_]) rfl rfl (Nat.le_of_ble_eq_true rfl) ?_
  have ks := ks_sheet s (by omega)
  have ks1 := ks.1
  have ks2 := ks.2.1
  have ks3 := ks.2.2.1
  have ks4 := ks.2.2.2.1
  have ks5 := ks.2.2.2.2.1
  refine kv_aload_n dX6_cars_0 rfl ?_
  refine kw_gI dX6_cars_1 fX6_22 hu (by first | rfl | assumption) rfl rfl ?_
  rw [hl]
  refine kv_iconst dX6_cars_4 2 ki_2 ?_
  refine kv_idiv dX6_cars_5 (by decide) ?_
  rw [(show nI (2 * m) / 2 = nI m from (pk_div (d := 2) (by omega) (by omega) (by omega)).trans (congrArg nI (by omega)))]
  refine kv_bipush dX6_cars_6 6 kb_6 ?_
  refine kw_mmin dX6_cars_8 lX6_31 rfl (by omega) ?_
  rw [(show (if (6 : Int32) < nI m then (6 : Int32) else nI m) = nI m from if_neg (fun q => nI_nlt (a := 6) (b := m) hm (by omega) q))]
  exact kv_iret dX6_cars_11 rfl ⟨rfl, rfl⟩

set_option maxRecDepth 20000 in
set_option maxHeartbeats 4000000 in
theorem qX6_waysBehind {w : KW} {l : Launch} {u : KMem} (hu : kWd u) (s : Nat) (hs : s < 4) {f : Nat → Int32} (hf : ∀ k, k < 24 → u.2.1 (401 + 3 * s + 1) k = f k) (off : Int32) {m : Nat} (hm : m ≤ 6) (t d : Nat) (ht : t < 2 ^ m) (hd : d < m) (hW : ∀ t2, t < t2 → t2 < 2 ^ m → ∀ c, c < m → u.2.1 (401 + 3 * s + 2) (t2 * 6 + c) = nI (kWy (kDr f off) m t2 c)) : KC w l mX6_waysBehind 2 0 0 [.ref (401 + 3 * s), .int (nI t), .int (nI d), .int (nI m), .int off] u (kq (some (.int (nI (kWy (kDr f off) m t d)))) u) := by
  have hp6 : 2 ^ m ≤ 2 ^ 6 := Nat.pow_le_pow_right (by decide) hm
  refine KC.of (ls := [_, _, _, _, _, _, _]) rfl rfl (Nat.le_of_ble_eq_true rfl) ?_
  have ks := ks_sheet s (by omega)
  have ks1 := ks.1
  have ks2 := ks.2.1
  have ks3 := ks.2.2.1
  have ks4 := ks.2.2.2.1
  have ks5 := ks.2.2.2.2.1
  refine kv_iload_n dX6_waysBehind_0 rfl ?_
  refine kv_iconst dX6_waysBehind_1 1 ki_1 ?_
  refine kv_iload_n dX6_waysBehind_2 rfl ?_
  refine kv_ishl dX6_waysBehind_3 ?_
  rw [kn_pow m (by omega)]
  refine kv_iconst dX6_waysBehind_4 1 ki_1 ?_
  refine kv_isub dX6_waysBehind_5 ?_
  rw [show (nI (2 ^ m) - 1 : Int32) = nI (2 ^ m - 1) from kn_sub rfl (show (1 : Int32) = nI 1 from rfl) (Nat.two_pow_pos m)]
  refine kv_icmp_ne dX6_waysBehind_6 11 (by decide) (fun h1 => ?_) (fun h1 => ?_)
  · have he : ¬ t = 2 ^ m - 1 := fun q => h1 (by rw [q])
    refine kv_iconst dX6_waysBehind_11 0 ki_0 ?_
    refine kv_istore (ls2 := [_, _, _, _, _, _, _]) dX6_waysBehind_12 rfl rfl rfl rfl ?_
    refine kv_iconst dX6_waysBehind_14 0 ki_0 ?_
    refine kv_istore (ls2 := [_, _, _, _, _, _, _]) dX6_waysBehind_15 rfl rfl rfl rfl ?_
    refine KV.loc (ls2 := [some (.ref (401 + 3 * s)), some (.int (nI t)), some (.int (nI d)), some (.int (nI m)), some (.int off), some (.int (nI (kSgm (fun c => if (!t.testBit c && kDr f off d c) = true then kWy (kDr f off) m (t ||| 2 ^ c) c else 0) (0)))), some (.int (nI (0)))]) ?_ (ksS (by first | rfl | exact congrArg (fun z => some (Value.int (nI z))) (by rw [e1, hF]; rfl) | exact congrArg (fun z => some (Value.int z)) ((nI_add _ _).trans (congrArg nI (by rw [e1, hF])))) (ksS (by first | rfl | exact congrArg (fun z => some (Value.int (nI z))) (by rw [e1, hF]; rfl) | exact congrArg (fun z => some (Value.int z)) ((nI_add _ _).trans (congrArg nI (by rw [e1, hF])))) (ksS (by first | rfl | exact congrArg (fun z => some (Value.int (nI z))) (by rw [e1, hF]; rfl) | exact congrArg (fun z => some (Value.int z)) ((nI_add _ _).trans (congrArg nI (by rw [e1, hF])))) (ksS (by first | rfl | exact congrArg (fun z => some (Value.int (nI z))) (by rw [e1, hF]; rfl) | exact congrArg (fun z => some (Value.int z)) ((nI_add _ _).trans (congrArg nI (by rw [e1, hF])))) (ksS (by first | rfl | exact congrArg (fun z => some (Value.int (nI z))) (by rw [e1, hF]; rfl) | exact congrArg (fun z => some (Value.int z)) ((nI_add _ _).trans (congrArg nI (by rw [e1, hF])))) (ksS (by first | rfl | exact congrArg (fun z => some (Value.int (nI z))) (by rw [e1, hF]; rfl) | exact congrArg (fun z => some (Value.int z)) ((nI_add _ _).trans (congrArg nI (by rw [e1, hF])))) (ksS (by first | rfl | exact congrArg (fun z => some (Value.int (nI z))) (by rw [e1, hF]; rfl) | exact congrArg (fun z => some (Value.int z)) ((nI_add _ _).trans (congrArg nI (by rw [e1, hF])))) ksN)))))))
    refine kn_loop (P := fun j => KV w l mX6_waysBehind 2 0 0 17 [some (.ref (401 + 3 * s)), some (.int (nI t)), some (.int (nI d)), some (.int (nI m)), some (.int off), some (.int (nI (kSgm (fun c => if (!t.testBit c && kDr f off d c) = true then kWy (kDr f off) m (t ||| 2 ^ c) c else 0) (j)))), some (.int (nI (j)))] [] u (kq (some (.int (nI (kWy (kDr f off) m t d)))) u)) (m) ?_ (fun j hj ih => ?_)
    · refine kv_iload dX6_waysBehind_17 rfl ?_
      refine kv_iload_n dX6_waysBehind_19 rfl ?_
      refine kv_icmp_ge dX6_waysBehind_20 72 (by decide) (fun h2 => ?_) (fun h2 => ?_)
      · refine kv_iload dX6_waysBehind_72 rfl ?_
        exact kv_iret dX6_waysBehind_74 rfl ⟨by rw [kWy_s ht he], rfl⟩
      · exact absurd h2 (fun q => q (Int32.le_refl _))
    · have e1 : kSgm (fun c => if (!t.testBit c && kDr f off d c) = true then kWy (kDr f off) m (t ||| 2 ^ c) c else 0) (j + 1) = kSgm (fun c => if (!t.testBit c && kDr f off d c) = true then kWy (kDr f off) m (t ||| 2 ^ c) c else 0) j + (fun c => if (!t.testBit c && kDr f off d c) = true then kWy (kDr f off) m (t ||| 2 ^ c) c else 0) j := rfl
      refine kv_iload dX6_waysBehind_17 rfl ?_
      refine kv_iload_n dX6_waysBehind_19 rfl ?_
      refine kv_icmp_ge dX6_waysBehind_20 72 (by decide) (fun h3 => ?_) (fun h3 => ?_)
      · exact absurd h3 (kn_ge hj (by omega))
      · refine kv_iload_n dX6_waysBehind_23 rfl ?_
        refine kv_iload dX6_waysBehind_24 rfl ?_
        refine kv_ishr dX6_waysBehind_26 ?_
        refine kv_iconst dX6_waysBehind_27 1 ki_1 ?_
        refine kv_iand dX6_waysBehind_28 ?_
        refine kv_if_ne dX6_waysBehind_29 66 (by decide) (fun h4 => ?_) (fun h4 => ?_)
        · have hb := kb_tb (Classical.byContradiction fun q => h4 ((kBit0 (by omega)).mpr q))
          have hF : (fun c => if (!t.testBit c && kDr f off d c) = true then kWy (kDr f off) m (t ||| 2 ^ c) c else 0) j = 0 := if_neg (by rw [hb]; exact Bool.false_ne_true)
          refine kv_iinc (ls2 := [_, _, _, _, _, _, _]) dX6_waysBehind_66 (nI (j + 1)) rfl (kv_inc1 j) rfl rfl rfl rfl ?_
          refine kv_goto dX6_waysBehind_69 17 (by decide) ?_
          exact KV.loc ih (ksS (by first | rfl | exact congrArg (fun z => some (Value.int (nI z))) (by rw [e1, hF]; rfl) | exact congrArg (fun z => some (Value.int z)) ((nI_add _ _).trans (congrArg nI (by rw [e1, hF])))) (ksS (by first | rfl | exact congrArg (fun z => some (Value.int (nI z))) (by rw [e1, hF]; rfl) | exact congrArg (fun z => some (Value.int z)) ((nI_add _ _).trans (congrArg nI (by rw [e1, hF])))) (ksS (by first | rfl | exact congrArg (fun z => some (Value.int (nI z))) (by rw [e1, hF]; rfl) | exact congrArg (fun z => some (Value.int z)) ((nI_add _ _).trans (congrArg nI (by rw [e1, hF])))) (ksS (by first | rfl | exact congrArg (fun z => some (Value.int (nI z))) (by rw [e1, hF]; rfl) | exact congrArg (fun z => some (Value.int z)) ((nI_add _ _).trans (congrArg nI (by rw [e1, hF])))) (ksS (by first | rfl | exact congrArg (fun z => some (Value.int (nI z))) (by rw [e1, hF]; rfl) | exact congrArg (fun z => some (Value.int z)) ((nI_add _ _).trans (congrArg nI (by rw [e1, hF])))) (ksS (by first | rfl | exact congrArg (fun z => some (Value.int (nI z))) (by rw [e1, hF]; rfl) | exact congrArg (fun z => some (Value.int z)) ((nI_add _ _).trans (congrArg nI (by rw [e1, hF])))) (ksS (by first | rfl | exact congrArg (fun z => some (Value.int (nI z))) (by rw [e1, hF]; rfl) | exact congrArg (fun z => some (Value.int z)) ((nI_add _ _).trans (congrArg nI (by rw [e1, hF])))) ksN)))))))
        · have hb := kb_tf ((kBit0 (by omega)).mp h4)
          refine kv_aload_n dX6_waysBehind_32 rfl ?_
          refine kv_iload_n dX6_waysBehind_33 rfl ?_
          refine kv_iload dX6_waysBehind_34 rfl ?_
          refine kv_iload dX6_waysBehind_36 rfl ?_
          refine kw_Vi [_, _, _] mX6_drivesInto dX6_waysBehind_38 lX6_45 wX6_drivesInto kC6 hu rfl (by first | rfl | assumption) rfl rfl rfl (qX6_drivesInto hu s hs hf off d j (by omega) (by omega)) (by decide) ?_
          refine kw_beq dX6_waysBehind_41 66 (by decide) (fun h5 => ?_) (fun h5 => ?_)
          · have hF : (fun c => if (!t.testBit c && kDr f off d c) = true then kWy (kDr f off) m (t ||| 2 ^ c) c else 0) j = 0 := if_neg (fun q => h5 (by rw [Bool.and_eq_true] at q; exact q.2))
            refine kv_iinc (ls2 := [_, _, _, _, _, _, _]) dX6_waysBehind_66 (nI (j + 1)) rfl (kv_inc1 j) rfl rfl rfl rfl ?_
            refine kv_goto dX6_waysBehind_69 17 (by decide) ?_
            exact KV.loc ih (ksS (by first | rfl | exact congrArg (fun z => some (Value.int (nI z))) (by rw [e1, hF]; rfl) | exact congrArg (fun z => some (Value.int z)) ((nI_add _ _).trans (congrArg nI (by rw [e1, hF])))) (ksS (by first | rfl | exact congrArg (fun z => some (Value.int (nI z))) (by rw [e1, hF]; rfl) | exact congrArg (fun z => some (Value.int z)) ((nI_add _ _).trans (congrArg nI (by rw [e1, hF])))) (ksS (by first | rfl | exact congrArg (fun z => some (Value.int (nI z))) (by rw [e1, hF]; rfl) | exact congrArg (fun z => some (Value.int z)) ((nI_add _ _).trans (congrArg nI (by rw [e1, hF])))) (ksS (by first | rfl | exact congrArg (fun z => some (Value.int (nI z))) (by rw [e1, hF]; rfl) | exact congrArg (fun z => some (Value.int z)) ((nI_add _ _).trans (congrArg nI (by rw [e1, hF])))) (ksS (by first | rfl | exact congrArg (fun z => some (Value.int (nI z))) (by rw [e1, hF]; rfl) | exact congrArg (fun z => some (Value.int z)) ((nI_add _ _).trans (congrArg nI (by rw [e1, hF])))) (ksS (by first | rfl | exact congrArg (fun z => some (Value.int (nI z))) (by rw [e1, hF]; rfl) | exact congrArg (fun z => some (Value.int z)) ((nI_add _ _).trans (congrArg nI (by rw [e1, hF])))) (ksS (by first | rfl | exact congrArg (fun z => some (Value.int (nI z))) (by rw [e1, hF]; rfl) | exact congrArg (fun z => some (Value.int z)) ((nI_add _ _).trans (congrArg nI (by rw [e1, hF])))) ksN)))))))
          · have hF : (fun c => if (!t.testBit c && kDr f off d c) = true then kWy (kDr f off) m (t ||| 2 ^ c) c else 0) j = kWy (kDr f off) m (t ||| 2 ^ j) j := if_pos (by rw [hb, h5]; rfl)
            have hol := kOr_lt ht hj
            have hog := kOr_gt hb
            refine kv_iload dX6_waysBehind_44 rfl ?_
            refine kv_aload_n dX6_waysBehind_46 rfl ?_
            refine kw_gR dX6_waysBehind_47 fX6_15 hu (by first | rfl | assumption) rfl rfl (by first | rfl | assumption) ?_
            refine kv_iload_n dX6_waysBehind_50 rfl ?_
            refine kv_iconst dX6_waysBehind_51 1 ki_1 ?_
            refine kv_iload dX6_waysBehind_52 rfl ?_
            refine kv_ishl dX6_waysBehind_54 ?_
            refine kv_ior dX6_waysBehind_55 ?_
            refine kv_bipush dX6_waysBehind_56 6 kb_6 ?_
            refine kv_imul dX6_waysBehind_58 ?_
            refine kv_iload dX6_waysBehind_59 rfl ?_
            refine kv_iadd dX6_waysBehind_61 ?_
            refine kw_il dX6_waysBehind_62 hu (by first | rfl | assumption) ((t ||| 2 ^ j) * 6 + j) (kn_add (kn_mul ((congrArg (fun z => nI t ||| z) (kn_pow j (by omega))).trans (kn_or _ _)) (show (6 : Int32) = nI 6 from rfl)) rfl) (by omega) rfl ?_
            rw [hW _ hog hol j hj]
            refine kv_iadd dX6_waysBehind_63 ?_
            refine kv_istore (ls2 := [_, _, _, _, _, _, _]) dX6_waysBehind_64 rfl rfl rfl rfl ?_
            refine kv_iinc (ls2 := [_, _, _, _, _, _, _]) dX6_waysBehind_66 (nI (j + 1)) rfl (kv_inc1 j) rfl rfl rfl rfl ?_
            refine kv_goto dX6_waysBehind_69 17 (by decide) ?_
            exact KV.loc ih (ksS (by first | rfl | exact congrArg (fun z => some (Value.int (nI z))) (by rw [e1, hF]; rfl) | exact congrArg (fun z => some (Value.int z)) ((nI_add _ _).trans (congrArg nI (by rw [e1, hF])))) (ksS (by first | rfl | exact congrArg (fun z => some (Value.int (nI z))) (by rw [e1, hF]; rfl) | exact congrArg (fun z => some (Value.int z)) ((nI_add _ _).trans (congrArg nI (by rw [e1, hF])))) (ksS (by first | rfl | exact congrArg (fun z => some (Value.int (nI z))) (by rw [e1, hF]; rfl) | exact congrArg (fun z => some (Value.int z)) ((nI_add _ _).trans (congrArg nI (by rw [e1, hF])))) (ksS (by first | rfl | exact congrArg (fun z => some (Value.int (nI z))) (by rw [e1, hF]; rfl) | exact congrArg (fun z => some (Value.int z)) ((nI_add _ _).trans (congrArg nI (by rw [e1, hF])))) (ksS (by first | rfl | exact congrArg (fun z => some (Value.int (nI z))) (by rw [e1, hF]; rfl) | exact congrArg (fun z => some (Value.int z)) ((nI_add _ _).trans (congrArg nI (by rw [e1, hF])))) (ksS (by first | rfl | exact congrArg (fun z => some (Value.int (nI z))) (by rw [e1, hF]; rfl) | exact congrArg (fun z => some (Value.int z)) ((nI_add _ _).trans (congrArg nI (by rw [e1, hF])))) (ksS (by first | rfl | exact congrArg (fun z => some (Value.int (nI z))) (by rw [e1, hF]; rfl) | exact congrArg (fun z => some (Value.int z)) ((nI_add _ _).trans (congrArg nI (by rw [e1, hF])))) ksN)))))))
  · have he : t = 2 ^ m - 1 := (nI_eq (by omega) (by omega)).mp h1
    refine kv_iconst dX6_waysBehind_9 1 ki_1 ?_
    exact kv_iret dX6_waysBehind_10 rfl ⟨by rw [he, kWy_full hm]; rfl, rfl⟩

set_option maxRecDepth 20000 in
set_option maxHeartbeats 4000000 in
theorem qX6_orders {w : KW} {l : Launch} {u : KMem} (hu : kWd u) (s : Nat) (hs : s < 4) {f : Nat → Int32} (hf : ∀ k, k < 24 → u.2.1 (401 + 3 * s + 1) k = f k) (off : Int32) {m : Nat} (hm : m ≤ 6) (hm1 : 1 ≤ m) (hl : u.2.1 (401 + 3 * s) 2 = nI (2 * m)) : KC w l mX6_orders 3 0 0 [.ref (401 + 3 * s), .int off] u (fun r v => r = some (.int (nI (kTn (kDr f off) m m 0 (fun _ => true)))) ∧ kEq (kSWs s) u v ∧ (∀ t2, 0 < t2 → t2 < 2 ^ m → ∀ c, c < m → v.2.1 (401 + 3 * s + 2) (t2 * 6 + c) = nI (kWy (kDr f off) m t2 c))) := by
  have hp6 : 2 ^ m ≤ 2 ^ 6 := Nat.pow_le_pow_right (by decide) hm
  have hp1 := Nat.two_pow_pos m
  refine KC.of (ls := [_, _, _, _, _]) rfl rfl (Nat.le_of_ble_eq_true rfl) ?_
  have ks := ks_sheet s (by omega)
  have ks1 := ks.1
  have ks2 := ks.2.1
  have ks3 := ks.2.2.1
  have ks4 := ks.2.2.2.1
  have ks5 := ks.2.2.2.2.1
  refine kv_aload_n dX6_orders_0 rfl ?_
  refine kw_Vi [] mX6_cars dX6_orders_1 lX6_37 wX6_cars kC6 hu rfl (by first | rfl | assumption) rfl rfl rfl (qX6_cars hu s hs hm hl) (by decide) ?_
  refine kv_istore_n (ls2 := [_, _, _, _, _]) dX6_orders_4 rfl rfl rfl rfl ?_
  refine kv_iconst dX6_orders_5 1 ki_1 ?_
  refine kv_iload_n dX6_orders_6 rfl ?_
  refine kv_ishl dX6_orders_7 ?_
  rw [kn_pow m (by omega)]
  refine kv_iconst dX6_orders_8 1 ki_1 ?_
  refine kv_isub dX6_orders_9 ?_
  rw [show (nI (2 ^ m) - 1 : Int32) = nI (2 ^ m - 1) from kn_sub rfl (show (1 : Int32) = nI 1 from rfl) (Nat.two_pow_pos m)]
  refine kv_istore_n (ls2 := [_, _, _, _, _]) dX6_orders_10 rfl rfl rfl rfl ?_
  refine KV.loc (ls2 := [some (.ref (401 + 3 * s)), some (.int off), some (.int (nI m)), some (.int (nI (2 ^ m - 1 - (0)))), none]) ?_ (ksS rfl (ksS rfl (ksS rfl (ksS rfl (ks0 ksN)))))
  refine kn_loop (P := fun i => ∀ v : KMem, kEq (kSWs s) u v → (∀ t2, 2 ^ m - 1 - i < t2 → t2 < 2 ^ m → ∀ c, c < m → v.2.1 (401 + 3 * s + 2) (t2 * 6 + c) = nI (kWy (kDr f off) m t2 c)) → KV w l mX6_orders 3 0 0 11 [some (.ref (401 + 3 * s)), some (.int off), some (.int (nI m)), some (.int (nI (2 ^ m - 1 - i))), none] [] v (fun r v => r = some (.int (nI (kTn (kDr f off) m m 0 (fun _ => true)))) ∧ kEq (kSWs s) u v ∧ (∀ t2, 0 < t2 → t2 < 2 ^ m → ∀ c, c < m → v.2.1 (401 + 3 * s + 2) (t2 * 6 + c) = nI (kWy (kDr f off) m t2 c)))) (2 ^ m - 1) ?_ (fun i hi ih => ?_) u kEq.rf (fun t2 h1 h2 => absurd h2 (by omega))
  · intro v E hT
    have hv := E.wd hu
    have hfv : ∀ k, k < 24 → v.2.1 (401 + 3 * s + 1) k = f k := fun k hk => (E.2.2.1 _ k (by unfold kSWs; omega)).trans (hf k hk)
    rw [Nat.sub_self] at hT ⊢
    refine kv_iload_n dX6_orders_11 rfl ?_
    refine kv_if_le dX6_orders_12 57 (by decide) (fun h1 => ?_) (fun h1 => ?_)
    · refine kv_iconst dX6_orders_57 0 ki_0 ?_
      refine kv_istore_n (ls2 := [_, _, _, _, _]) dX6_orders_58 rfl rfl rfl rfl ?_
      refine kv_iconst dX6_orders_59 0 ki_0 ?_
      refine kv_istore (ls2 := [_, _, _, _, _]) dX6_orders_60 rfl rfl rfl rfl ?_
      refine KV.loc (ls2 := [some (.ref (401 + 3 * s)), some (.int off), some (.int (nI m)), some (.int (nI (kSgm (fun c => kWy (kDr f off) m (2 ^ c) c) (0)))), some (.int (nI (0)))]) ?_ (ksS rfl (ksS rfl (ksS rfl (ksS rfl (ksS rfl ksN)))))
      refine kn_loop (P := fun j => KV w l mX6_orders 3 0 0 62 [some (.ref (401 + 3 * s)), some (.int off), some (.int (nI m)), some (.int (nI (kSgm (fun c => kWy (kDr f off) m (2 ^ c) c) (j)))), some (.int (nI (j)))] [] v (fun r v => r = some (.int (nI (kTn (kDr f off) m m 0 (fun _ => true)))) ∧ kEq (kSWs s) u v ∧ (∀ t2, 0 < t2 → t2 < 2 ^ m → ∀ c, c < m → v.2.1 (401 + 3 * s + 2) (t2 * 6 + c) = nI (kWy (kDr f off) m t2 c)))) (m) ?_ (fun j hj ih => ?_)
      · refine kv_iload dX6_orders_62 rfl ?_
        refine kv_iload_n dX6_orders_64 rfl ?_
        refine kv_icmp_ge dX6_orders_65 92 (by decide) (fun h2 => ?_) (fun h2 => ?_)
        · refine kv_iload_n dX6_orders_92 rfl ?_
          exact kv_iret dX6_orders_93 rfl ⟨by rw [kTn_0 hm1], E, hT⟩
        · exact absurd h2 (fun q => q (Int32.le_refl _))
      · have e1 : kSgm (fun c => kWy (kDr f off) m (2 ^ c) c) (j + 1) = kSgm (fun c => kWy (kDr f off) m (2 ^ c) c) j + kWy (kDr f off) m (2 ^ j) j := rfl
        have hpj : 2 ^ j < 2 ^ m := Nat.pow_lt_pow_right (by decide) hj
        refine kv_iload dX6_orders_62 rfl ?_
        refine kv_iload_n dX6_orders_64 rfl ?_
        refine kv_icmp_ge dX6_orders_65 92 (by decide) (fun h3 => ?_) (fun h3 => ?_)
        · exact absurd h3 (kn_ge hj (by omega))
        · refine kv_iload_n dX6_orders_68 rfl ?_
          refine kv_aload_n dX6_orders_69 rfl ?_
          refine kw_gR dX6_orders_70 fX6_15 hv (by first | rfl | assumption) rfl rfl (by first | rfl | assumption) ?_
          refine kv_iconst dX6_orders_73 1 ki_1 ?_
          refine kv_iload dX6_orders_74 rfl ?_
          refine kv_ishl dX6_orders_76 ?_
          refine kv_bipush dX6_orders_77 6 kb_6 ?_
          refine kv_imul dX6_orders_79 ?_
          refine kv_iload dX6_orders_80 rfl ?_
          refine kv_iadd dX6_orders_82 ?_
          refine kw_il dX6_orders_83 hv (by first | rfl | assumption) (2 ^ j * 6 + j) (kn_add (kn_mul (kn_pow j (by omega)) (show (6 : Int32) = nI 6 from rfl)) rfl) (by omega) rfl ?_
          rw [hT _ (Nat.two_pow_pos j) hpj j hj]
          refine kv_iadd dX6_orders_84 ?_
          refine kv_istore_n (ls2 := [_, _, _, _, _]) dX6_orders_85 rfl rfl rfl rfl ?_
          refine kv_iinc (ls2 := [_, _, _, _, _]) dX6_orders_86 (nI (j + 1)) rfl (kv_inc1 j) rfl rfl rfl rfl ?_
          refine kv_goto dX6_orders_89 62 (by decide) ?_
          exact KV.loc ih (ksS (by first | rfl | exact congrArg (fun z => some (Value.int z)) ((nI_add _ _).trans (congrArg nI e1.symm))) (ksS (by first | rfl | exact congrArg (fun z => some (Value.int z)) ((nI_add _ _).trans (congrArg nI e1.symm))) (ksS (by first | rfl | exact congrArg (fun z => some (Value.int z)) ((nI_add _ _).trans (congrArg nI e1.symm))) (ksS (by first | rfl | exact congrArg (fun z => some (Value.int z)) ((nI_add _ _).trans (congrArg nI e1.symm))) (ksS (by first | rfl | exact congrArg (fun z => some (Value.int z)) ((nI_add _ _).trans (congrArg nI e1.symm))) ksN)))))
    · exact absurd (Int32.le_refl (nI 0)) h1
  · have ihi := ih
    intro v E hT
    have hv := E.wd hu
    have hfv : ∀ k, k < 24 → v.2.1 (401 + 3 * s + 1) k = f k := fun k hk => (E.2.2.1 _ k (by unfold kSWs; omega)).trans (hf k hk)
    obtain ⟨t, et⟩ : ∃ t, t = 2 ^ m - 1 - i := ⟨_, rfl⟩
    rw [← et] at hT ⊢
    refine kv_iload_n dX6_orders_11 rfl ?_
    refine kv_if_le dX6_orders_12 57 (by decide) (fun h4 => ?_) (fun h4 => ?_)
    · exact absurd h4 (nI_ge (a := 0) (by omega) (by omega))
    · refine kv_iconst dX6_orders_15 0 ki_0 ?_
      refine kv_istore (ls2 := [_, _, _, _, _]) dX6_orders_16 rfl rfl rfl rfl ?_
      refine KV.loc (ls2 := [some (.ref (401 + 3 * s)), some (.int off), some (.int (nI m)), some (.int (nI t)), some (.int (nI (0)))]) ?_ (ksS rfl (ksS rfl (ksS rfl (ksS rfl (ksS rfl ksN)))))
      refine kn_loop (P := fun d => ∀ v : KMem, kEq (kSWs s) u v → (∀ t2, t < t2 → t2 < 2 ^ m → ∀ c, c < m → v.2.1 (401 + 3 * s + 2) (t2 * 6 + c) = nI (kWy (kDr f off) m t2 c)) → (∀ c, c < d → v.2.1 (401 + 3 * s + 2) (t * 6 + c) = nI (kWy (kDr f off) m t c)) → KV w l mX6_orders 3 0 0 18 [some (.ref (401 + 3 * s)), some (.int off), some (.int (nI m)), some (.int (nI (t))), some (.int (nI d))] [] v (fun r v => r = some (.int (nI (kTn (kDr f off) m m 0 (fun _ => true)))) ∧ kEq (kSWs s) u v ∧ (∀ t2, 0 < t2 → t2 < 2 ^ m → ∀ c, c < m → v.2.1 (401 + 3 * s + 2) (t2 * 6 + c) = nI (kWy (kDr f off) m t2 c)))) (m) ?_ (fun d hd ih => ?_) v E hT (fun c hc => absurd hc (Nat.not_lt_zero c))
      · intro v E hT hD
        have hv := E.wd hu
        have hfv : ∀ k, k < 24 → v.2.1 (401 + 3 * s + 1) k = f k := fun k hk => (E.2.2.1 _ k (by unfold kSWs; omega)).trans (hf k hk)
        refine kv_iload dX6_orders_18 rfl ?_
        refine kv_iload_n dX6_orders_20 rfl ?_
        refine kv_icmp_ge dX6_orders_21 51 (by decide) (fun h5 => ?_) (fun h5 => ?_)
        · refine kv_iinc (ls2 := [_, _, _, _, _]) dX6_orders_51 (nI (2 ^ m - 1 - (i + 1))) rfl ((kn_dec1 (by omega)).trans (congrArg nI (by omega))) rfl rfl rfl rfl ?_
          refine kv_goto dX6_orders_54 11 (by decide) ?_
          refine KV.loc (ihi v E (fun t2 h1 h2 c hc => ?_)) (ksS rfl (ksS rfl (ksS rfl (ksS rfl (ks0 ksN)))))
          by_cases q : t2 = t
          · rw [q]; exact hD c hc
          · exact hT t2 (by omega) h2 c hc
        · exact absurd h5 (fun q => q (Int32.le_refl _))
      · intro v E hT hD
        have hv := E.wd hu
        have hfv : ∀ k, k < 24 → v.2.1 (401 + 3 * s + 1) k = f k := fun k hk => (E.2.2.1 _ k (by unfold kSWs; omega)).trans (hf k hk)
        refine kv_iload dX6_orders_18 rfl ?_
        refine kv_iload_n dX6_orders_20 rfl ?_
        refine kv_icmp_ge dX6_orders_21 51 (by decide) (fun h6 => ?_) (fun h6 => ?_)
        · exact absurd h6 (kn_ge hd (by omega))
        · refine kv_aload_n dX6_orders_24 rfl ?_
          refine kw_gR dX6_orders_25 fX6_15 hv (by first | rfl | assumption) rfl rfl (by first | rfl | assumption) ?_
          refine kv_iload_n dX6_orders_28 rfl ?_
          refine kv_bipush dX6_orders_29 6 kb_6 ?_
          refine kv_imul dX6_orders_31 ?_
          refine kv_iload dX6_orders_32 rfl ?_
          refine kv_iadd dX6_orders_34 ?_
          refine kv_aload_n dX6_orders_35 rfl ?_
          refine kv_iload_n dX6_orders_36 rfl ?_
          refine kv_iload dX6_orders_37 rfl ?_
          refine kv_iload_n dX6_orders_39 rfl ?_
          refine kv_iload_n dX6_orders_40 rfl ?_
          refine kw_Vi [_, _, _, _] mX6_waysBehind dX6_orders_41 lX6_41 wX6_waysBehind kC6 hv rfl (by first | rfl | assumption) rfl rfl rfl (qX6_waysBehind hv s hs hfv off hm t d (by omega) hd hT) (by decide) ?_
          refine kw_is dX6_orders_44 hv (by first | rfl | assumption) (t * 6 + d) (kn_add (kn_mul rfl (show (6 : Int32) = nI 6 from rfl)) rfl) (by omega) rfl ?_
          refine kv_iinc (ls2 := [_, _, _, _, _]) dX6_orders_45 (nI (d + 1)) rfl (kv_inc1 d) rfl rfl rfl rfl ?_
          refine kv_goto dX6_orders_48 18 (by decide) ?_
          refine KV.loc (ih _ (E.si rfl) (fun t2 h1 h2 c hc => by rw [kv_si_n (by omega)]; exact hT t2 h1 h2 c hc) (fun c hc => ?_)) (ksS rfl (ksS rfl (ksS rfl (ksS rfl (ksS rfl ksN)))))
          by_cases q : c = d
          · rw [q, kv_si_s]
          · rw [kv_si_n (by omega)]; exact hD c (by omega)

set_option maxRecDepth 20000 in
set_option maxHeartbeats 4000000 in
theorem qX6_firstBehind {w : KW} {l : Launch} {u : KMem} (hu : kWd u) (s : Nat) (hs : s < 4) {f : Nat → Int32} (hf : ∀ k, k < 24 → u.2.1 (401 + 3 * s + 1) k = f k) (off : Int32) {m : Nat} (hm : m ≤ 6) (hl : u.2.1 (401 + 3 * s) 2 = nI (2 * m)) (t : Nat) (ht : t < 2 ^ m) (la : Int32) (Dl : Nat → Bool) (hla : (la = -1 ∧ Dl = fun _ => true) ∨ ∃ d, d < m ∧ la = nI d ∧ Dl = kDr f off d) (hW : ∀ t2, 0 < t2 → t2 < 2 ^ m → ∀ c, c < m → u.2.1 (401 + 3 * s + 2) (t2 * 6 + c) = nI (kWy (kDr f off) m t2 c)) : KC w l mX6_firstBehind 2 0 0 [.ref (401 + 3 * s), .int (nI t), .int la, .int off] u (kq (some (.int (nI (kFi (fun c => if (!t.testBit c && Dl c) = true then kWy (kDr f off) m (t ||| 2 ^ c) c else 0) m)))) u) := by
  have hp6 : 2 ^ m ≤ 2 ^ 6 := Nat.pow_le_pow_right (by decide) hm
  refine KC.of (ls := [_, _, _, _, _]) rfl rfl (Nat.le_of_ble_eq_true rfl) ?_
  have ks := ks_sheet s (by omega)
  have ks1 := ks.1
  have ks2 := ks.2.1
  have ks3 := ks.2.2.1
  have ks4 := ks.2.2.2.1
  have ks5 := ks.2.2.2.2.1
  refine kv_iconst dX6_firstBehind_0 0 ki_0 ?_
  refine kv_istore (ls2 := [_, _, _, _, _]) dX6_firstBehind_1 rfl rfl rfl rfl ?_
  rcases hla with ⟨rfl, rfl⟩ | ⟨d, hd, rfl, rfl⟩
  · refine KV.loc (ls2 := [some (.ref (401 + 3 * s)), some (.int (nI t)), some (.int (-1)), some (.int off), some (.int (nI (0)))]) ?_ (ksS rfl (ksS rfl (ksS rfl (ksS rfl (ksS rfl ksN)))))
    refine kn_loop (P := fun j => (kFi (fun c => if (!t.testBit c && (fun _ => true) c) = true then kWy (kDr f off) m (t ||| 2 ^ c) c else 0) m = kFiA (fun c => if (!t.testBit c && (fun _ => true) c) = true then kWy (kDr f off) m (t ||| 2 ^ c) c else 0) (m - j) j → KV w l mX6_firstBehind 2 0 0 3 [some (.ref (401 + 3 * s)), some (.int (nI t)), some (.int (-1)), some (.int off), some (.int (nI (j)))] [] u (kq (some (.int (nI (kFi (fun c => if (!t.testBit c && (fun _ => true) c) = true then kWy (kDr f off) m (t ||| 2 ^ c) c else 0) m)))) u))) (m) ?_ (fun j hj ih => ?_) rfl
    · intro hF
      rw [Nat.sub_self] at hF
      refine kv_iload dX6_firstBehind_3 rfl ?_
      refine kv_aload_n dX6_firstBehind_5 rfl ?_
      refine kw_Vi [] mX6_cars dX6_firstBehind_6 lX6_37 wX6_cars kC6 hu rfl (by first | rfl | assumption) rfl rfl rfl (qX6_cars hu s hs hm hl) (by decide) ?_
      refine kv_icmp_ge dX6_firstBehind_9 65 (by decide) (fun h1 => ?_) (fun h1 => ?_)
      · refine kv_iconst dX6_firstBehind_65 0 ki_0 ?_
        exact kv_iret dX6_firstBehind_66 rfl ⟨by rw [hF]; rfl, rfl⟩
      · exact absurd h1 (fun q => q (Int32.le_refl _))
    · intro hF
      have hF2 : kFi (fun c => if (!t.testBit c && (fun _ => true) c) = true then kWy (kDr f off) m (t ||| 2 ^ c) c else 0) m = if 0 < (fun c => if (!t.testBit c && (fun _ => true) c) = true then kWy (kDr f off) m (t ||| 2 ^ c) c else 0) j then j else kFiA (fun c => if (!t.testBit c && (fun _ => true) c) = true then kWy (kDr f off) m (t ||| 2 ^ c) c else 0) (m - (j + 1)) (j + 1) := by
        rw [hF, show m - j = m - (j + 1) + 1 by omega]
        rfl
      refine kv_iload dX6_firstBehind_3 rfl ?_
      refine kv_aload_n dX6_firstBehind_5 rfl ?_
      refine kw_Vi [] mX6_cars dX6_firstBehind_6 lX6_37 wX6_cars kC6 hu rfl (by first | rfl | assumption) rfl rfl rfl (qX6_cars hu s hs hm hl) (by decide) ?_
      refine kv_icmp_ge dX6_firstBehind_9 65 (by decide) (fun h2 => ?_) (fun h2 => ?_)
      · exact absurd h2 (kn_ge hj (by omega))
      · refine kv_iload_n dX6_firstBehind_12 rfl ?_
        refine kv_iload dX6_firstBehind_13 rfl ?_
        refine kv_ishr dX6_firstBehind_15 ?_
        refine kv_iconst dX6_firstBehind_16 1 ki_1 ?_
        refine kv_iand dX6_firstBehind_17 ?_
        refine kv_if_ne dX6_firstBehind_18 59 (by decide) (fun h3 => ?_) (fun h3 => ?_)
        · have hb := kb_tb (Classical.byContradiction fun q => h3 ((kBit0 (by omega)).mpr q))
          have hz : ¬ 0 < (fun c => if (!t.testBit c && (fun _ => true) c) = true then kWy (kDr f off) m (t ||| 2 ^ c) c else 0) j := by
            rw [show (fun c => if (!t.testBit c && (fun _ => true) c) = true then kWy (kDr f off) m (t ||| 2 ^ c) c else 0) j = 0 from if_neg (by rw [hb]; exact Bool.false_ne_true)]
            exact Nat.lt_irrefl 0
          refine kv_iinc (ls2 := [_, _, _, _, _]) dX6_firstBehind_59 (nI (j + 1)) rfl (kv_inc1 j) rfl rfl rfl rfl ?_
          refine kv_goto dX6_firstBehind_62 3 (by decide) ?_
          have hG := hF2
          rw [if_neg hz] at hG
          exact KV.loc (ih hG) (ksS rfl (ksS rfl (ksS rfl (ksS rfl (ksS rfl ksN)))))
        · have hb := kb_tf ((kBit0 (by omega)).mp h3)
          have hol := kOr_lt ht hj
          have hog := kOr_gt hb
          refine kv_iload_n dX6_firstBehind_21 rfl ?_
          refine kv_if_lt dX6_firstBehind_22 36 (by decide) (fun h4 => ?_) (fun h4 => ?_)
          · have hfe : (fun c => if (!t.testBit c && (fun _ => true) c) = true then kWy (kDr f off) m (t ||| 2 ^ c) c else 0) j = kWy (kDr f off) m (t ||| 2 ^ j) j := if_pos (by rw [hb]; rfl)
            refine kv_aload_n dX6_firstBehind_36 rfl ?_
            refine kw_gR dX6_firstBehind_37 fX6_15 hu (by first | rfl | assumption) rfl rfl (by first | rfl | assumption) ?_
            refine kv_iload_n dX6_firstBehind_40 rfl ?_
            refine kv_iconst dX6_firstBehind_41 1 ki_1 ?_
            refine kv_iload dX6_firstBehind_42 rfl ?_
            refine kv_ishl dX6_firstBehind_44 ?_
            refine kv_ior dX6_firstBehind_45 ?_
            refine kv_bipush dX6_firstBehind_46 6 kb_6 ?_
            refine kv_imul dX6_firstBehind_48 ?_
            refine kv_iload dX6_firstBehind_49 rfl ?_
            refine kv_iadd dX6_firstBehind_51 ?_
            refine kw_il dX6_firstBehind_52 hu (by first | rfl | assumption) ((t ||| 2 ^ j) * 6 + j) (kn_add (kn_mul ((congrArg (fun z => nI t ||| z) (kn_pow j (by omega))).trans (kn_or _ _)) (show (6 : Int32) = nI 6 from rfl)) rfl) (by omega) rfl ?_
            rw [hW _ (Nat.lt_of_le_of_lt (Nat.zero_le _) hog) hol j hj]
            refine kv_if_le dX6_firstBehind_53 59 (by decide) (fun h5 => ?_) (fun h5 => ?_)
            · have hwb := kWy_b (D := kDr f off) (t := t ||| 2 ^ j) (d := j) hm
              have hz : ¬ 0 < (fun c => if (!t.testBit c && (fun _ => true) c) = true then kWy (kDr f off) m (t ||| 2 ^ c) c else 0) j := by
                rw [hfe]
                have := (nI_leI (b := 0) (by omega) (by omega)).mp h5
                omega
              refine kv_iinc (ls2 := [_, _, _, _, _]) dX6_firstBehind_59 (nI (j + 1)) rfl (kv_inc1 j) rfl rfl rfl rfl ?_
              refine kv_goto dX6_firstBehind_62 3 (by decide) ?_
              have hG := hF2
              rw [if_neg hz] at hG
              exact KV.loc (ih hG) (ksS rfl (ksS rfl (ksS rfl (ksS rfl (ksS rfl ksN)))))
            · have hwb := kWy_b (D := kDr f off) (t := t ||| 2 ^ j) (d := j) hm
              have hz : 0 < (fun c => if (!t.testBit c && (fun _ => true) c) = true then kWy (kDr f off) m (t ||| 2 ^ c) c else 0) j := by
                rw [hfe]
                exact Nat.lt_of_not_le (fun q => h5 (nI_le (b := 0) q (by omega)))
              refine kv_iload dX6_firstBehind_56 rfl ?_
              exact kv_iret dX6_firstBehind_58 rfl ⟨by rw [hF2, if_pos hz], rfl⟩
          · exact absurd (show (-1 : Int32) < 0 by decide) h4
  · refine KV.loc (ls2 := [some (.ref (401 + 3 * s)), some (.int (nI t)), some (.int (nI d)), some (.int off), some (.int (nI (0)))]) ?_ (ksS rfl (ksS rfl (ksS rfl (ksS rfl (ksS rfl ksN)))))
    refine kn_loop (P := fun j => (kFi (fun c => if (!t.testBit c && (kDr f off d) c) = true then kWy (kDr f off) m (t ||| 2 ^ c) c else 0) m = kFiA (fun c => if (!t.testBit c && (kDr f off d) c) = true then kWy (kDr f off) m (t ||| 2 ^ c) c else 0) (m - j) j → KV w l mX6_firstBehind 2 0 0 3 [some (.ref (401 + 3 * s)), some (.int (nI t)), some (.int (nI d)), some (.int off), some (.int (nI (j)))] [] u (kq (some (.int (nI (kFi (fun c => if (!t.testBit c && (kDr f off d) c) = true then kWy (kDr f off) m (t ||| 2 ^ c) c else 0) m)))) u))) (m) ?_ (fun j hj ih => ?_) rfl
    · intro hF
      rw [Nat.sub_self] at hF
      refine kv_iload dX6_firstBehind_3 rfl ?_
      refine kv_aload_n dX6_firstBehind_5 rfl ?_
      refine kw_Vi [] mX6_cars dX6_firstBehind_6 lX6_37 wX6_cars kC6 hu rfl (by first | rfl | assumption) rfl rfl rfl (qX6_cars hu s hs hm hl) (by decide) ?_
      refine kv_icmp_ge dX6_firstBehind_9 65 (by decide) (fun h6 => ?_) (fun h6 => ?_)
      · refine kv_iconst dX6_firstBehind_65 0 ki_0 ?_
        exact kv_iret dX6_firstBehind_66 rfl ⟨by rw [hF]; rfl, rfl⟩
      · exact absurd h6 (fun q => q (Int32.le_refl _))
    · intro hF
      have hF2 : kFi (fun c => if (!t.testBit c && (kDr f off d) c) = true then kWy (kDr f off) m (t ||| 2 ^ c) c else 0) m = if 0 < (fun c => if (!t.testBit c && (kDr f off d) c) = true then kWy (kDr f off) m (t ||| 2 ^ c) c else 0) j then j else kFiA (fun c => if (!t.testBit c && (kDr f off d) c) = true then kWy (kDr f off) m (t ||| 2 ^ c) c else 0) (m - (j + 1)) (j + 1) := by
        rw [hF, show m - j = m - (j + 1) + 1 by omega]
        rfl
      refine kv_iload dX6_firstBehind_3 rfl ?_
      refine kv_aload_n dX6_firstBehind_5 rfl ?_
      refine kw_Vi [] mX6_cars dX6_firstBehind_6 lX6_37 wX6_cars kC6 hu rfl (by first | rfl | assumption) rfl rfl rfl (qX6_cars hu s hs hm hl) (by decide) ?_
      refine kv_icmp_ge dX6_firstBehind_9 65 (by decide) (fun h7 => ?_) (fun h7 => ?_)
      · exact absurd h7 (kn_ge hj (by omega))
      · refine kv_iload_n dX6_firstBehind_12 rfl ?_
        refine kv_iload dX6_firstBehind_13 rfl ?_
        refine kv_ishr dX6_firstBehind_15 ?_
        refine kv_iconst dX6_firstBehind_16 1 ki_1 ?_
        refine kv_iand dX6_firstBehind_17 ?_
        refine kv_if_ne dX6_firstBehind_18 59 (by decide) (fun h8 => ?_) (fun h8 => ?_)
        · have hb := kb_tb (Classical.byContradiction fun q => h8 ((kBit0 (by omega)).mpr q))
          have hz : ¬ 0 < (fun c => if (!t.testBit c && (kDr f off d) c) = true then kWy (kDr f off) m (t ||| 2 ^ c) c else 0) j := by
            rw [show (fun c => if (!t.testBit c && (kDr f off d) c) = true then kWy (kDr f off) m (t ||| 2 ^ c) c else 0) j = 0 from if_neg (by rw [hb]; exact Bool.false_ne_true)]
            exact Nat.lt_irrefl 0
          refine kv_iinc (ls2 := [_, _, _, _, _]) dX6_firstBehind_59 (nI (j + 1)) rfl (kv_inc1 j) rfl rfl rfl rfl ?_
          refine kv_goto dX6_firstBehind_62 3 (by decide) ?_
          have hG := hF2
          rw [if_neg hz] at hG
          exact KV.loc (ih hG) (ksS rfl (ksS rfl (ksS rfl (ksS rfl (ksS rfl ksN)))))
        · have hb := kb_tf ((kBit0 (by omega)).mp h8)
          have hol := kOr_lt ht hj
          have hog := kOr_gt hb
          refine kv_iload_n dX6_firstBehind_21 rfl ?_
          refine kv_if_lt dX6_firstBehind_22 36 (by decide) (fun h9 => ?_) (fun h9 => ?_)
          · exact absurd h9 (nI_nlt (b := 0) (Nat.zero_le d) (by omega))
          · refine kv_aload_n dX6_firstBehind_25 rfl ?_
            refine kv_iload_n dX6_firstBehind_26 rfl ?_
            refine kv_iload dX6_firstBehind_27 rfl ?_
            refine kv_iload_n dX6_firstBehind_29 rfl ?_
            refine kw_Vi [_, _, _] mX6_drivesInto dX6_firstBehind_30 lX6_45 wX6_drivesInto kC6 hu rfl (by first | rfl | assumption) rfl rfl rfl (qX6_drivesInto hu s hs hf off d j (by omega) (by omega)) (by decide) ?_
            refine kw_beq dX6_firstBehind_33 59 (by decide) (fun h10 => ?_) (fun h10 => ?_)
            · have hz : ¬ 0 < (fun c => if (!t.testBit c && (kDr f off d) c) = true then kWy (kDr f off) m (t ||| 2 ^ c) c else 0) j := by
                rw [show (fun c => if (!t.testBit c && (kDr f off d) c) = true then kWy (kDr f off) m (t ||| 2 ^ c) c else 0) j = 0 from if_neg (fun q => h10 (by rw [Bool.and_eq_true] at q; exact q.2))]
                exact Nat.lt_irrefl 0
              refine kv_iinc (ls2 := [_, _, _, _, _]) dX6_firstBehind_59 (nI (j + 1)) rfl (kv_inc1 j) rfl rfl rfl rfl ?_
              refine kv_goto dX6_firstBehind_62 3 (by decide) ?_
              have hG := hF2
              rw [if_neg hz] at hG
              exact KV.loc (ih hG) (ksS rfl (ksS rfl (ksS rfl (ksS rfl (ksS rfl ksN)))))
            · have hfe : (fun c => if (!t.testBit c && (kDr f off d) c) = true then kWy (kDr f off) m (t ||| 2 ^ c) c else 0) j = kWy (kDr f off) m (t ||| 2 ^ j) j := if_pos (by rw [hb, h10]; rfl)
              refine kv_aload_n dX6_firstBehind_36 rfl ?_
              refine kw_gR dX6_firstBehind_37 fX6_15 hu (by first | rfl | assumption) rfl rfl (by first | rfl | assumption) ?_
              refine kv_iload_n dX6_firstBehind_40 rfl ?_
              refine kv_iconst dX6_firstBehind_41 1 ki_1 ?_
              refine kv_iload dX6_firstBehind_42 rfl ?_
              refine kv_ishl dX6_firstBehind_44 ?_
              refine kv_ior dX6_firstBehind_45 ?_
              refine kv_bipush dX6_firstBehind_46 6 kb_6 ?_
              refine kv_imul dX6_firstBehind_48 ?_
              refine kv_iload dX6_firstBehind_49 rfl ?_
              refine kv_iadd dX6_firstBehind_51 ?_
              refine kw_il dX6_firstBehind_52 hu (by first | rfl | assumption) ((t ||| 2 ^ j) * 6 + j) (kn_add (kn_mul ((congrArg (fun z => nI t ||| z) (kn_pow j (by omega))).trans (kn_or _ _)) (show (6 : Int32) = nI 6 from rfl)) rfl) (by omega) rfl ?_
              rw [hW _ (Nat.lt_of_le_of_lt (Nat.zero_le _) hog) hol j hj]
              refine kv_if_le dX6_firstBehind_53 59 (by decide) (fun h11 => ?_) (fun h11 => ?_)
              · have hwb := kWy_b (D := kDr f off) (t := t ||| 2 ^ j) (d := j) hm
                have hz : ¬ 0 < (fun c => if (!t.testBit c && (kDr f off d) c) = true then kWy (kDr f off) m (t ||| 2 ^ c) c else 0) j := by
                  rw [hfe]
                  have := (nI_leI (b := 0) (by omega) (by omega)).mp h11
                  omega
                refine kv_iinc (ls2 := [_, _, _, _, _]) dX6_firstBehind_59 (nI (j + 1)) rfl (kv_inc1 j) rfl rfl rfl rfl ?_
                refine kv_goto dX6_firstBehind_62 3 (by decide) ?_
                have hG := hF2
                rw [if_neg hz] at hG
                exact KV.loc (ih hG) (ksS rfl (ksS rfl (ksS rfl (ksS rfl (ksS rfl ksN)))))
              · have hwb := kWy_b (D := kDr f off) (t := t ||| 2 ^ j) (d := j) hm
                have hz : 0 < (fun c => if (!t.testBit c && (kDr f off d) c) = true then kWy (kDr f off) m (t ||| 2 ^ c) c else 0) j := by
                  rw [hfe]
                  exact Nat.lt_of_not_le (fun q => h11 (nI_le (b := 0) q (by omega)))
                refine kv_iload dX6_firstBehind_56 rfl ?_
                exact kv_iret dX6_firstBehind_58 rfl ⟨by rw [hF2, if_pos hz], rfl⟩

