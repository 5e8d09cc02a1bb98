/-- what Integer.bitCount works out -/
def kBC (i : Int32) : Int32 :=
  let a := i - (((i).toUInt32 >>> ((1 : Int32).toUInt32 &&& Int32.toUInt32 31)).toInt32 &&& 1431655765)
  let b := (a &&& 858993459) + (((a).toUInt32 >>> ((2 : Int32).toUInt32 &&& Int32.toUInt32 31)).toInt32 &&& 858993459)
  let c := (b + ((b).toUInt32 >>> ((4 : Int32).toUInt32 &&& Int32.toUInt32 31)).toInt32) &&& 252645135
  let d := c + ((c).toUInt32 >>> ((8 : Int32).toUInt32 &&& Int32.toUInt32 31)).toInt32
  let e := d + ((d).toUInt32 >>> ((16 : Int32).toUInt32 &&& Int32.toUInt32 31)).toInt32
  e &&& 63
set_option maxRecDepth 20000 in
set_option maxHeartbeats 4000000 in
theorem qX11_outside {w : KW} {l : Launch} {u : KMem} (hu : kWd u) (p0 p1 p2 : Int32) : KC w l mX11_outside 0 0 0 [.int p0, .int p1, .int p2] u (kq (some (.int (if p0 < p1 ∨ ¬ p0 ≤ p2 then 1 else 0))) u) := by
  refine KC.of (ls := [_, _, _]) rfl rfl (Nat.le_of_ble_eq_true rfl) ?_
  refine kv_iload_n dX11_outside_0 rfl ?_
  refine kv_iload_n dX11_outside_1 rfl ?_
  refine kv_icmp_lt dX11_outside_2 10 (by decide) (fun h1 => ?_) (fun h1 => ?_)
  · refine kv_iconst dX11_outside_10 1 ki_1 ?_
    refine kv_goto dX11_outside_11 15 (by decide) ?_
    exact kv_zret dX11_outside_15 rfl kv_z1 ⟨by simp [*], rfl⟩
  · refine kv_iload_n dX11_outside_5 rfl ?_
    refine kv_iload_n dX11_outside_6 rfl ?_
    refine kv_icmp_le dX11_outside_7 14 (by decide) (fun h2 => ?_) (fun h2 => ?_)
    · refine kv_iconst dX11_outside_14 0 ki_0 ?_
      exact kv_zret dX11_outside_15 rfl kv_z0 ⟨by simp [*], rfl⟩
    · refine kv_iconst dX11_outside_10 1 ki_1 ?_
      refine kv_goto dX11_outside_11 15 (by decide) ?_
      exact kv_zret dX11_outside_15 rfl kv_z1 ⟨by simp [*], rfl⟩

set_option maxRecDepth 20000 in
set_option maxHeartbeats 4000000 in
theorem qX11_refuse {w : KW} {l : Launch} {u : KMem} (hu : kWd u) (k : Nat) (hk : k ≤ 6) (hk1 : 1 ≤ k) (x : Int32) (hx : -1000000 - x = nI k) : KC w l mX11_refuse 0 0 0 [.ref 0, .int x] u (kq (some (.int x)) (kv_si u 400 k (u.2.1 400 k + 1))) := by
  refine KC.of (ls := [_, _, _]) rfl rfl (Nat.le_of_ble_eq_true rfl) ?_
  refine kv_ldcw dX11_refuse_0 kX11_432 ?_
  refine kv_iload_n dX11_refuse_3 rfl ?_
  refine kv_isub dX11_refuse_4 ?_
  refine kv_istore_n (ls2 := [_, _, _]) dX11_refuse_5 rfl rfl rfl rfl ?_
  rw [hx]
  refine kv_iload_n dX11_refuse_6 rfl ?_
  refine kv_iconst dX11_refuse_7 1 ki_1 ?_
  refine kv_icmp_lt dX11_refuse_8 27 (by decide) (fun h1 => ?_) (fun h1 => ?_)
  · exact absurd h1 (nI_nlt (b := 1) hk1 (by omega))
  · refine kv_iload_n dX11_refuse_11 rfl ?_
    refine kv_bipush dX11_refuse_12 6 kb_6 ?_
    refine kv_icmp_gt dX11_refuse_14 27 (by decide) (fun h2 => ?_) (fun h2 => ?_)
    · exact absurd h2 (nI_nlt (a := 6) hk (by omega))
    · refine kv_aload_n dX11_refuse_17 rfl ?_
      refine kw_gR dX11_refuse_18 fX11_64 hu (by first | rfl | assumption) rfl rfl (by first | rfl | assumption) ?_
      refine kv_iload_n dX11_refuse_21 rfl ?_
      refine kv_dup2 dX11_refuse_22 rfl rfl ?_
      refine kw_il dX11_refuse_23 hu (by first | rfl | assumption) (k) rfl (by omega) rfl ?_
      refine kv_iconst dX11_refuse_24 1 ki_1 ?_
      refine kv_iadd dX11_refuse_25 ?_
      refine kw_is dX11_refuse_26 hu (by first | rfl | assumption) (k) rfl (by omega) rfl ?_
      refine kv_iload_n dX11_refuse_27 rfl ?_
      exact kv_iret dX11_refuse_28 rfl ⟨rfl, rfl⟩

set_option maxRecDepth 20000 in
set_option maxHeartbeats 4000000 in
theorem qX11_noCar {w : KW} {l : Launch} {u : KMem} (hu : kWd u) (p0 : Int32) : KC w l mX11_noCar 1 0 0 [.ref 0, .int p0] u (kq (some (.int (if p0 < 0 ∨ ¬ p0 ≤ u.2.1 1 1 - 1 then 1 else 0))) u) := by
  refine KC.of (ls := [_, _]) rfl rfl (Nat.le_of_ble_eq_true rfl) ?_
  refine kv_iload_n dX11_noCar_0 rfl ?_
  refine kv_iconst dX11_noCar_1 0 ki_0 ?_
  refine kv_aload_n dX11_noCar_2 rfl ?_
  refine kw_gR dX11_noCar_3 fX11_12 hu (by first | rfl | assumption) rfl rfl (by first | rfl | assumption) ?_
  refine kw_gI dX11_noCar_6 fX11_79 hu (by first | rfl | assumption) rfl rfl ?_
  refine kv_iconst dX11_noCar_9 1 ki_1 ?_
  refine kv_isub dX11_noCar_10 ?_
  refine kw_Si [_, _, _] mX11_outside dX11_noCar_11 lX11_69 wX11_outside rfl rfl rfl (qX11_outside hu _ _ _) (by decide) ?_
  exact kv_zret dX11_noCar_14 rfl kv_zi ⟨rfl, rfl⟩

set_option maxRecDepth 20000 in
set_option maxHeartbeats 4000000 in
theorem qX11_noCrash {w : KW} {l : Launch} {u : KMem} (hu : kWd u) (p0 : Int32) : KC w l mX11_noCrash 1 0 0 [.ref 0, .int p0] u (kq (some (.int (if p0 < 0 ∨ ¬ p0 ≤ u.2.1 1 7 - 1 then 1 else 0))) u) := by
  refine KC.of (ls := [_, _]) rfl rfl (Nat.le_of_ble_eq_true rfl) ?_
  refine kv_iload_n dX11_noCrash_0 rfl ?_
  refine kv_iconst dX11_noCrash_1 0 ki_0 ?_
  refine kv_aload_n dX11_noCrash_2 rfl ?_
  refine kw_gR dX11_noCrash_3 fX11_12 hu (by first | rfl | assumption) rfl rfl (by first | rfl | assumption) ?_
  refine kw_gI dX11_noCrash_6 fX11_134 hu (by first | rfl | assumption) rfl rfl ?_
  refine kv_iconst dX11_noCrash_9 1 ki_1 ?_
  refine kv_isub dX11_noCrash_10 ?_
  refine kw_Si [_, _, _] mX11_outside dX11_noCrash_11 lX11_69 wX11_outside rfl rfl rfl (qX11_outside hu _ _ _) (by decide) ?_
  exact kv_zret dX11_noCrash_14 rfl kv_zi ⟨rfl, rfl⟩

set_option maxRecDepth 20000 in
set_option maxHeartbeats 4000000 in
theorem qX11_noEntry {w : KW} {l : Launch} {u : KMem} (hu : kWd u) (p0 : Int32) : KC w l mX11_noEntry 1 0 0 [.ref 0, .int p0] u (kq (some (.int (if p0 < 0 ∨ ¬ p0 ≤ u.2.1 1 11 - 1 then 1 else 0))) u) := by
  refine KC.of (ls := [_, _]) rfl rfl (Nat.le_of_ble_eq_true rfl) ?_
  refine kv_iload_n dX11_noEntry_0 rfl ?_
  refine kv_iconst dX11_noEntry_1 0 ki_0 ?_
  refine kv_aload_n dX11_noEntry_2 rfl ?_
  refine kw_gR dX11_noEntry_3 fX11_12 hu (by first | rfl | assumption) rfl rfl (by first | rfl | assumption) ?_
  refine kw_gI dX11_noEntry_6 fX11_256 hu (by first | rfl | assumption) rfl rfl ?_
  refine kv_iconst dX11_noEntry_9 1 ki_1 ?_
  refine kv_isub dX11_noEntry_10 ?_
  refine kw_Si [_, _, _] mX11_outside dX11_noEntry_11 lX11_69 wX11_outside rfl rfl rfl (qX11_outside hu _ _ _) (by decide) ?_
  exact kv_zret dX11_noEntry_14 rfl kv_zi ⟨rfl, rfl⟩

set_option maxRecDepth 20000 in
set_option maxHeartbeats 4000000 in
theorem qX11_noSide {w : KW} {l : Launch} {u : KMem} (hu : kWd u) (p0 p1 : Int32) : KC w l mX11_noSide 2 0 0 [.ref 0, .int p0, .int p1] u (kq (some (.int (if (p0 < 0 ∨ ¬ p0 ≤ u.2.1 1 7 - 1) ∨ (p1 < 0 ∨ ¬ p1 ≤ 1) then 1 else 0))) u) := by
  refine KC.of (ls := [_, _, _]) rfl rfl (Nat.le_of_ble_eq_true rfl) ?_
  refine kv_aload_n dX11_noSide_0 rfl ?_
  refine kv_iload_n dX11_noSide_1 rfl ?_
  refine kw_Vi [_] mX11_noCrash dX11_noSide_2 lX11_151 wX11_noCrash kC11 hu rfl (by first | rfl | assumption) rfl rfl rfl (qX11_noCrash hu _) (by decide) ?_
  refine kw_bne dX11_noSide_5 17 (by decide) (fun h1 => ?_) (fun h1 => ?_)
  · refine kv_iconst dX11_noSide_17 1 ki_1 ?_
    refine kv_goto dX11_noSide_18 22 (by decide) ?_
    exact kv_zret dX11_noSide_22 rfl kv_z1 ⟨by simp only [*]; simp, rfl⟩
  · refine kv_iload_n dX11_noSide_8 rfl ?_
    refine kv_iconst dX11_noSide_9 0 ki_0 ?_
    refine kv_iconst dX11_noSide_10 1 ki_1 ?_
    refine kw_Si [_, _, _] mX11_outside dX11_noSide_11 lX11_69 wX11_outside rfl rfl rfl (qX11_outside hu _ _ _) (by decide) ?_
    refine kw_beq dX11_noSide_14 21 (by decide) (fun h2 => ?_) (fun h2 => ?_)
    · refine kv_iconst dX11_noSide_21 0 ki_0 ?_
      exact kv_zret dX11_noSide_22 rfl kv_z0 ⟨by simp only [*]; simp, rfl⟩
    · refine kv_iconst dX11_noSide_17 1 ki_1 ?_
      refine kv_goto dX11_noSide_18 22 (by decide) ?_
      exact kv_zret dX11_noSide_22 rfl kv_z1 ⟨by simp only [*]; simp, rfl⟩

set_option maxRecDepth 20000 in
set_option maxHeartbeats 4000000 in
theorem qX11_draws {w : KW} {l : Launch} {u : KMem} (hu : kWd u) (p0 : Int32) : KC w l mX11_draws 0 0 0 [.ref 0, .int p0] u (kq (some (.int (u.2.1 1 18))) (kv_si u 1 18 p0)) := by
  refine KC.of (ls := [_, _, _]) rfl rfl (Nat.le_of_ble_eq_true rfl) ?_
  refine kv_aload_n dX11_draws_0 rfl ?_
  refine kw_gR dX11_draws_1 fX11_12 hu (by first | rfl | assumption) rfl rfl (by first | rfl | assumption) ?_
  refine kw_gI dX11_draws_4 fX11_327 hu (by first | rfl | assumption) rfl rfl ?_
  refine kv_istore_n (ls2 := [_, _, _]) dX11_draws_7 rfl rfl rfl rfl ?_
  refine kv_aload_n dX11_draws_8 rfl ?_
  refine kw_gR dX11_draws_9 fX11_12 hu (by first | rfl | assumption) rfl rfl (by first | rfl | assumption) ?_
  refine kv_iload_n dX11_draws_12 rfl ?_
  refine kw_pI dX11_draws_13 fX11_327 hu (by first | rfl | assumption) rfl rfl ?_
  refine kv_iload_n dX11_draws_16 rfl ?_
  exact kv_iret dX11_draws_17 rfl ⟨rfl, rfl⟩

set_option maxRecDepth 20000 in
set_option maxHeartbeats 4000000 in
theorem qJ6_bitCount_0f7a4 {w : KW} {l : Launch} {u : KMem} (hu : kWd u) (p0 : Int32) : KC w l mJ6_bitCount_0f7a4 0 0 0 [.int p0] u (kq (some (.int (kBC p0))) u) := by
  refine KC.of (ls := [_]) rfl rfl (Nat.le_of_ble_eq_true rfl) ?_
  refine kv_iload_n dJ6_bitCount_0f7a4_0 rfl ?_
  refine kv_iload_n dJ6_bitCount_0f7a4_1 rfl ?_
  refine kv_iconst dJ6_bitCount_0f7a4_2 1 ki_1 ?_
  refine kv_iushr dJ6_bitCount_0f7a4_3 ?_
  refine kv_ldcw dJ6_bitCount_0f7a4_4 kJ6_265 ?_
  refine kv_iand dJ6_bitCount_0f7a4_7 ?_
  refine kv_isub dJ6_bitCount_0f7a4_8 ?_
  refine kv_istore_n (ls2 := [_]) dJ6_bitCount_0f7a4_9 rfl rfl rfl rfl ?_
  refine kv_iload_n dJ6_bitCount_0f7a4_10 rfl ?_
  refine kv_ldcw dJ6_bitCount_0f7a4_11 kJ6_266 ?_
  refine kv_iand dJ6_bitCount_0f7a4_14 ?_
  refine kv_iload_n dJ6_bitCount_0f7a4_15 rfl ?_
  refine kv_iconst dJ6_bitCount_0f7a4_16 2 ki_2 ?_
  refine kv_iushr dJ6_bitCount_0f7a4_17 ?_
  refine kv_ldcw dJ6_bitCount_0f7a4_18 kJ6_266 ?_
  refine kv_iand dJ6_bitCount_0f7a4_21 ?_
  refine kv_iadd dJ6_bitCount_0f7a4_22 ?_
  refine kv_istore_n (ls2 := [_]) dJ6_bitCount_0f7a4_23 rfl rfl rfl rfl ?_
  refine kv_iload_n dJ6_bitCount_0f7a4_24 rfl ?_
  refine kv_iload_n dJ6_bitCount_0f7a4_25 rfl ?_
  refine kv_iconst dJ6_bitCount_0f7a4_26 4 ki_4 ?_
  refine kv_iushr dJ6_bitCount_0f7a4_27 ?_
  refine kv_iadd dJ6_bitCount_0f7a4_28 ?_
  refine kv_ldcw dJ6_bitCount_0f7a4_29 kJ6_267 ?_
  refine kv_iand dJ6_bitCount_0f7a4_32 ?_
  refine kv_istore_n (ls2 := [_]) dJ6_bitCount_0f7a4_33 rfl rfl rfl rfl ?_
  refine kv_iload_n dJ6_bitCount_0f7a4_34 rfl ?_
  refine kv_iload_n dJ6_bitCount_0f7a4_35 rfl ?_
  refine kv_bipush dJ6_bitCount_0f7a4_36 8 kb_8 ?_
  refine kv_iushr dJ6_bitCount_0f7a4_38 ?_
  refine kv_iadd dJ6_bitCount_0f7a4_39 ?_
  refine kv_istore_n (ls2 := [_]) dJ6_bitCount_0f7a4_40 rfl rfl rfl rfl ?_
  refine kv_iload_n dJ6_bitCount_0f7a4_41 rfl ?_
  refine kv_iload_n dJ6_bitCount_0f7a4_42 rfl ?_
  refine kv_bipush dJ6_bitCount_0f7a4_43 16 kb_16 ?_
  refine kv_iushr dJ6_bitCount_0f7a4_45 ?_
  refine kv_iadd dJ6_bitCount_0f7a4_46 ?_
  refine kv_istore_n (ls2 := [_]) dJ6_bitCount_0f7a4_47 rfl rfl rfl rfl ?_
  refine kv_iload_n dJ6_bitCount_0f7a4_48 rfl ?_
  refine kv_bipush dJ6_bitCount_0f7a4_49 63 kb_63 ?_
  refine kv_iand dJ6_bitCount_0f7a4_51 ?_
  exact kv_iret dJ6_bitCount_0f7a4_52 rfl ⟨rfl, rfl⟩

