/-! what the model's numbers g come to -/
def kHas (set : Int32) (k : Nat) : Prop := (set >>> (nI k &&& 31)) &&& 1 = 1
/-- the bits of a set, by a loop over the first n -/
def kBits (set : Int32) : Nat → Int32
  | 0 => 0
  | k + 1 => kBits set k + ((set >>> (nI k &&& 31)) &&& 1)
def kCarOf (g : Nat → Int32) (x s : Nat) : Nat := (g (328 + 7 * x + s)).toNatClampNeg
def kFresh (g : Nat → Int32) (x s : Nat) : Int32 := (if s = 0 then g (328 + 7 * x + 4) >>> ((8 : Int32) &&& 31) else g (328 + 7 * x + 4) &&& 255) &&& (g (40 + 8 * kCarOf g x s + 4) ^^^ (-1))
set_option maxRecDepth 20000 in
set_option maxHeartbeats 4000000 in
theorem qX12_within {w : KW} {l : Launch} {u : KMem} (hu : kWd u) (p0 p1 p2 : Int32) : KC w l mX12_within 0 0 0 [.int p0, .int p1, .int p2] u (kq (some (.int (if ¬ p0 < p1 ∧ ¬ p2 < p0 then 1 else 0))) u) := by
  refine KC.of (ls := [_, _, _]) rfl rfl (Nat.le_of_ble_eq_true rfl) ?_
  refine kv_iload_n dX12_within_0 rfl ?_
  refine kv_iload_n dX12_within_1 rfl ?_
  refine kv_icmp_lt dX12_within_2 14 (by decide) (fun h1 => ?_) (fun h1 => ?_)
  · refine kv_iconst dX12_within_14 0 ki_0 ?_
    exact kv_zret dX12_within_15 rfl kv_z0 ⟨by simp [*], rfl⟩
  · refine kv_iload_n dX12_within_5 rfl ?_
    refine kv_iload_n dX12_within_6 rfl ?_
    refine kv_icmp_gt dX12_within_7 14 (by decide) (fun h2 => ?_) (fun h2 => ?_)
    · refine kv_iconst dX12_within_14 0 ki_0 ?_
      exact kv_zret dX12_within_15 rfl kv_z0 ⟨by simp [*], rfl⟩
    · refine kv_iconst dX12_within_10 1 ki_1 ?_
      refine kv_goto dX12_within_11 15 (by decide) ?_
      exact kv_zret dX12_within_15 rfl kv_z1 ⟨by simp [*], rfl⟩

set_option maxRecDepth 20000 in
set_option maxHeartbeats 4000000 in
theorem qX12_finding {w : KW} {l : Launch} {u : KMem} (hu : kWd u) (k : Nat) (hk : k ≤ 6) (hk1 : 1 ≤ k) (x : Int32) (hx : -1000000 - x = nI k) : KC w l mX12_finding 0 0 0 [.ref 413, .int x] u (kq (some (.int x)) (kv_si u 416 k (u.2.1 416 k + 1))) := by
  refine KC.of (ls := [_, _]) rfl rfl (Nat.le_of_ble_eq_true rfl) ?_
  refine kv_aload_n dX12_finding_0 rfl ?_
  refine kw_gR dX12_finding_1 fX12_16 hu (by first | rfl | assumption) rfl rfl (by first | rfl | assumption) ?_
  refine kv_ldc dX12_finding_4 kX12_77 ?_
  refine kv_iload_n dX12_finding_6 rfl ?_
  refine kv_isub dX12_finding_7 ?_
  refine kv_dup2 dX12_finding_8 rfl rfl ?_
  refine kw_il dX12_finding_9 hu (by first | rfl | assumption) (k) hx (by omega) rfl ?_
  refine kv_iconst dX12_finding_10 1 ki_1 ?_
  refine kv_iadd dX12_finding_11 ?_
  refine kw_is dX12_finding_12 hu (by first | rfl | assumption) (k) hx (by omega) rfl ?_
  refine kv_iload_n dX12_finding_13 rfl ?_
  exact kv_iret dX12_finding_14 rfl ⟨rfl, rfl⟩

set_option maxRecDepth 20000 in
set_option maxHeartbeats 4000000 in
theorem qX12_is {w : KW} {l : Launch} {u : KMem} (hu : kWd u) (p0 : Int32) (k : Nat) (hk : k < 1421) : KC w l mX12_is 1 0 0 [.ref 413, .int p0, .int (nI k)] u (kq (some (.int (if ¬ p0 < 0 ∧ ¬ u.2.1 414 k - 1 < p0 then 1 else 0))) u) := by
  refine KC.of (ls := [_, _, _]) rfl rfl (Nat.le_of_ble_eq_true rfl) ?_
  refine kv_iload_n dX12_is_0 rfl ?_
  refine kv_iconst dX12_is_1 0 ki_0 ?_
  refine kv_aload_n dX12_is_2 rfl ?_
  refine kw_gR dX12_is_3 fX12_9 hu (by first | rfl | assumption) rfl rfl (by first | rfl | assumption) ?_
  refine kv_iload_n dX12_is_6 rfl ?_
  refine kw_il dX12_is_7 hu (by first | rfl | assumption) (_) rfl (by omega) rfl ?_
  refine kv_iconst dX12_is_8 1 ki_1 ?_
  refine kv_isub dX12_is_9 ?_
  refine kw_Si [_, _, _] mX12_within dX12_is_10 lX12_78 wX12_within rfl rfl rfl (qX12_within hu _ _ _) (by decide) ?_
  exact kv_zret dX12_is_13 rfl kv_zi ⟨rfl, rfl⟩

set_option maxRecDepth 20000 in
set_option maxHeartbeats 4000000 in
theorem qX12_has {w : KW} {l : Launch} {u : KMem} (hu : kWd u) (p0 p1 : Int32) : KC w l mX12_has 0 0 0 [.int p0, .int p1] u (kq (some (.int (if (p0 >>> (p1 &&& 31)) &&& 1 = 1 then 1 else 0))) u) := by
  refine KC.of (ls := [_, _]) rfl rfl (Nat.le_of_ble_eq_true rfl) ?_
  refine kv_iload_n dX12_has_0 rfl ?_
  refine kv_iload_n dX12_has_1 rfl ?_
  refine kv_ishr dX12_has_2 ?_
  refine kv_iconst dX12_has_3 1 ki_1 ?_
  refine kv_iand dX12_has_4 ?_
  refine kv_iconst dX12_has_5 1 ki_1 ?_
  refine kv_icmp_ne dX12_has_6 13 (by decide) (fun h1 => ?_) (fun h1 => ?_)
  · refine kv_iconst dX12_has_13 0 ki_0 ?_
    exact kv_zret dX12_has_14 rfl kv_z0 ⟨by simp [*], rfl⟩
  · refine kv_iconst dX12_has_9 1 ki_1 ?_
    refine kv_goto dX12_has_10 14 (by decide) ?_
    exact kv_zret dX12_has_14 rfl kv_z1 ⟨by simp [*], rfl⟩

set_option maxRecDepth 20000 in
set_option maxHeartbeats 4000000 in
theorem qX12_become {w : KW} {l : Launch} {u : KMem} (hu : kWd u) (k : Nat) (hk : k < 1421) (x : Int32) : KC w l mX12_become 0 0 0 [.ref 413, .int (nI k), .int x] u (kq (some (.int (u.2.1 414 k))) (kv_si u 414 k x)) := by
  refine KC.of (ls := [_, _, _, _]) rfl rfl (Nat.le_of_ble_eq_true rfl) ?_
  refine kv_aload_n dX12_become_0 rfl ?_
  refine kw_gR dX12_become_1 fX12_9 hu (by first | rfl | assumption) rfl rfl (by first | rfl | assumption) ?_
  refine kv_iload_n dX12_become_4 rfl ?_
  refine kw_il dX12_become_5 hu (by first | rfl | assumption) (_) rfl (by omega) rfl ?_
  refine kv_istore_n (ls2 := [_, _, _, _]) dX12_become_6 rfl rfl rfl rfl ?_
  refine kv_aload_n dX12_become_7 rfl ?_
  refine kw_gR dX12_become_8 fX12_9 hu (by first | rfl | assumption) rfl rfl (by first | rfl | assumption) ?_
  refine kv_iload_n dX12_become_11 rfl ?_
  refine kv_iload_n dX12_become_12 rfl ?_
  refine kw_is dX12_become_13 hu (by first | rfl | assumption) (_) rfl (by omega) rfl ?_
  refine kv_iload_n dX12_become_14 rfl ?_
  exact kv_iret dX12_become_15 rfl ⟨rfl, rfl⟩

set_option maxRecDepth 20000 in
set_option maxHeartbeats 4000000 in
theorem qX12_isSide {w : KW} {l : Launch} {u : KMem} (hu : kWd u) (p0 : Int32) : KC w l mX12_isSide 1 0 0 [.int p0] u (kq (some (.int (if ¬ p0 < 0 ∧ ¬ 1 < p0 then 1 else 0))) u) := by
  refine KC.of (ls := [_]) rfl rfl (Nat.le_of_ble_eq_true rfl) ?_
  refine kv_iload_n dX12_isSide_0 rfl ?_
  refine kv_iconst dX12_isSide_1 0 ki_0 ?_
  refine kv_iconst dX12_isSide_2 1 ki_1 ?_
  refine kw_Si [_, _, _] mX12_within dX12_isSide_3 lX12_78 wX12_within rfl rfl rfl (qX12_within hu _ _ _) (by decide) ?_
  exact kv_zret dX12_isSide_6 rfl kv_zi ⟨rfl, rfl⟩

set_option maxRecDepth 20000 in
set_option maxHeartbeats 4000000 in
theorem qX12_isSheet {w : KW} {l : Launch} {u : KMem} (hu : kWd u) (p0 : Int32) : KC w l mX12_isSheet 1 0 0 [.int p0] u (kq (some (.int (if ¬ p0 < 0 ∧ ¬ 3 < p0 then 1 else 0))) u) := by
  refine KC.of (ls := [_]) rfl rfl (Nat.le_of_ble_eq_true rfl) ?_
  refine kv_iload_n dX12_isSheet_0 rfl ?_
  refine kv_iconst dX12_isSheet_1 0 ki_0 ?_
  refine kv_iconst dX12_isSheet_2 3 ki_3 ?_
  refine kw_Si [_, _, _] mX12_within dX12_isSheet_3 lX12_78 wX12_within rfl rfl rfl (qX12_within hu _ _ _) (by decide) ?_
  exact kv_zret dX12_isSheet_6 rfl kv_zi ⟨rfl, rfl⟩

set_option maxRecDepth 20000 in
set_option maxHeartbeats 4000000 in
theorem qX12_isMonth {w : KW} {l : Launch} {u : KMem} (hu : kWd u) (p0 : Int32) : KC w l mX12_isMonth 1 0 0 [.int p0] u (kq (some (.int (if ¬ p0 < 0 ∧ ¬ 33 < p0 then 1 else 0))) u) := by
  refine KC.of (ls := [_]) rfl rfl (Nat.le_of_ble_eq_true rfl) ?_
  refine kv_iload_n dX12_isMonth_0 rfl ?_
  refine kv_iconst dX12_isMonth_1 0 ki_0 ?_
  refine kv_bipush dX12_isMonth_2 33 kb_33 ?_
  refine kw_Si [_, _, _] mX12_within dX12_isMonth_4 lX12_78 wX12_within rfl rfl rfl (qX12_within hu _ _ _) (by decide) ?_
  exact kv_zret dX12_isMonth_7 rfl kv_zi ⟨rfl, rfl⟩

set_option maxRecDepth 20000 in
set_option maxHeartbeats 4000000 in
theorem qX12_car {w : KW} {l : Launch} {u : KMem} (hu : kWd u) (c f : Nat) (hc : c < 30) (hf : f < 8) : KC w l mX12_car 0 0 0 [.ref 413, .int (nI c), .int (nI f)] u (kq (some (.int (u.2.1 414 (40 + 8 * c + f)))) u) := by
  refine KC.of (ls := [_, _, _]) rfl rfl (Nat.le_of_ble_eq_true rfl) ?_
  refine kv_aload_n dX12_car_0 rfl ?_
  refine kw_gR dX12_car_1 fX12_9 hu (by first | rfl | assumption) rfl rfl (by first | rfl | assumption) ?_
  refine kv_bipush dX12_car_4 40 kb_40 ?_
  refine kv_bipush dX12_car_6 8 kb_8 ?_
  refine kv_iload_n dX12_car_8 rfl ?_
  refine kv_imul dX12_car_9 ?_
  refine kv_iadd dX12_car_10 ?_
  refine kv_iload_n dX12_car_11 rfl ?_
  refine kv_iadd dX12_car_12 ?_
  refine kw_il dX12_car_13 hu (by first | rfl | assumption) (_) (kn_add (kn_add (show (40 : Int32) = nI 40 from rfl) (kn_mul (show (8 : Int32) = nI 8 from rfl) rfl)) rfl) (by omega) rfl ?_
  exact kv_iret dX12_car_14 rfl ⟨rfl, rfl⟩

set_option maxRecDepth 20000 in
set_option maxHeartbeats 4000000 in
theorem qX12_crash_ {w : KW} {l : Launch} {u : KMem} (hu : kWd u) (c f : Nat) (hc : c < 20) (hf : f < 7) : KC w l mX12_crash_ 0 0 0 [.ref 413, .int (nI c), .int (nI f)] u (kq (some (.int (u.2.1 414 (328 + 7 * c + f)))) u) := by
  refine KC.of (ls := [_, _, _]) rfl rfl (Nat.le_of_ble_eq_true rfl) ?_
  refine kv_aload_n dX12_crash__0 rfl ?_
  refine kw_gR dX12_crash__1 fX12_9 hu (by first | rfl | assumption) rfl rfl (by first | rfl | assumption) ?_
  refine kv_sipush dX12_crash__4 328 kz_328 ?_
  refine kv_bipush dX12_crash__7 7 kb_7 ?_
  refine kv_iload_n dX12_crash__9 rfl ?_
  refine kv_imul dX12_crash__10 ?_
  refine kv_iadd dX12_crash__11 ?_
  refine kv_iload_n dX12_crash__12 rfl ?_
  refine kv_iadd dX12_crash__13 ?_
  refine kw_il dX12_crash__14 hu (by first | rfl | assumption) (_) (kn_add (kn_add (show (328 : Int32) = nI 328 from rfl) (kn_mul (show (7 : Int32) = nI 7 from rfl) rfl)) rfl) (by omega) rfl ?_
  exact kv_iret dX12_crash__15 rfl ⟨rfl, rfl⟩

set_option maxRecDepth 20000 in
set_option maxHeartbeats 4000000 in
theorem qX12_line {w : KW} {l : Launch} {u : KMem} (hu : kWd u) (c f : Nat) (hc : c < 40) (hf : f < 5) : KC w l mX12_line 0 0 0 [.ref 413, .int (nI c), .int (nI f)] u (kq (some (.int (u.2.1 414 (1128 + 5 * c + f)))) u) := by
  refine KC.of (ls := [_, _, _]) rfl rfl (Nat.le_of_ble_eq_true rfl) ?_
  refine kv_aload_n dX12_line_0 rfl ?_
  refine kw_gR dX12_line_1 fX12_9 hu (by first | rfl | assumption) rfl rfl (by first | rfl | assumption) ?_
  refine kv_sipush dX12_line_4 1128 kz_1128 ?_
  refine kv_iconst dX12_line_7 5 ki_5 ?_
  refine kv_iload_n dX12_line_8 rfl ?_
  refine kv_imul dX12_line_9 ?_
  refine kv_iadd dX12_line_10 ?_
  refine kv_iload_n dX12_line_11 rfl ?_
  refine kv_iadd dX12_line_12 ?_
  refine kw_il dX12_line_13 hu (by first | rfl | assumption) (_) (kn_add (kn_add (show (1128 : Int32) = nI 1128 from rfl) (kn_mul (show (5 : Int32) = nI 5 from rfl) rfl)) rfl) (by omega) rfl ?_
  exact kv_iret dX12_line_14 rfl ⟨rfl, rfl⟩

set_option maxRecDepth 20000 in
set_option maxHeartbeats 4000000 in
theorem qX12_hold {w : KW} {l : Launch} {u : KMem} (hu : kWd u) (p0 p1 : Int32) : KC w l mX12_hold 1 0 0 [.int p0, .int p1] u (kq (some (.int (if 0 < (if p0 < p1 then p0 else p1) then (if p0 < p1 then p0 else p1) else 0))) u) := by
  refine KC.of (ls := [_, _]) rfl rfl (Nat.le_of_ble_eq_true rfl) ?_
  refine kv_iconst dX12_hold_0 0 ki_0 ?_
  refine kv_iload_n dX12_hold_1 rfl ?_
  refine kv_iload_n dX12_hold_2 rfl ?_
  refine kw_mmin dX12_hold_3 lX12_131 rfl (by omega) ?_
  refine kw_mmax dX12_hold_6 lX12_136 rfl (by omega) ?_
  exact kv_iret dX12_hold_9 rfl ⟨rfl, rfl⟩

set_option maxRecDepth 20000 in
set_option maxHeartbeats 4000000 in
theorem qX12_draws {w : KW} {l : Launch} {u : KMem} (hu : kWd u) (p0 : Int32) : KC w l mX12_draws 1 0 0 [.ref 413, .int p0] u (kq (some (.int (u.2.1 414 7))) (kv_si u 414 7 p0)) := by
  refine KC.of (ls := [_, _]) rfl rfl (Nat.le_of_ble_eq_true rfl) ?_
  refine kv_aload_n dX12_draws_0 rfl ?_
  refine kv_bipush dX12_draws_1 7 kb_7 ?_
  refine kv_iload_n dX12_draws_3 rfl ?_
  refine kw_Vi [_, _] mX12_become dX12_draws_4 lX12_100 wX12_become kC12 hu rfl (by first | rfl | assumption) rfl rfl rfl (qX12_become hu 7 (by decide) _) (by decide) ?_
  exact kv_iret dX12_draws_7 rfl ⟨rfl, rfl⟩

set_option maxRecDepth 20000 in
set_option maxHeartbeats 4000000 in
theorem qX12_bits {w : KW} {l : Launch} {u : KMem} (hu : kWd u) (p0 : Int32) : KC w l mX12_bits 0 0 0 [.int p0] u (kq (some (.int (kBits p0 24))) u) := by
  refine KC.of (ls := [_, _, _]) rfl rfl (Nat.le_of_ble_eq_true rfl) ?_
  refine kv_iconst dX12_bits_0 0 ki_0 ?_
  refine kv_istore_n (ls2 := [_, _, _]) dX12_bits_1 rfl rfl rfl rfl ?_
  refine kv_iconst dX12_bits_2 0 ki_0 ?_
  refine kv_istore_n (ls2 := [_, _, _]) dX12_bits_3 rfl rfl rfl rfl ?_
  refine KV.loc (ls2 := [some (.int p0), some (.int (kBits p0 0)), some (.int (nI 0))]) ?_ (ksS rfl (ksS rfl (ksS rfl ksN)))
  refine kn_loop (P := fun i => KV w l mX12_bits 0 0 0 4 [some (.int p0), some (.int (kBits p0 i)), some (.int (nI i))] [] u (kq (some (.int (kBits p0 24))) u)) (24) ?_ (fun i hi ih => ?_)
  · refine kv_iload_n dX12_bits_4 rfl ?_
    refine kv_bipush dX12_bits_5 24 kb_24 ?_
    refine kv_icmp_ge dX12_bits_7 24 (by decide) (fun h1 => ?_) (fun h1 => ?_)
    · refine kv_iload_n dX12_bits_24 rfl ?_
      exact kv_iret dX12_bits_25 rfl ⟨rfl, rfl⟩
    · exact (kn_nge h1).elim
  · refine kv_iload_n dX12_bits_4 rfl ?_
    refine kv_bipush dX12_bits_5 24 kb_24 ?_
    refine kv_icmp_ge dX12_bits_7 24 (by decide) (fun h2 => ?_) (fun h2 => ?_)
    · exact absurd h2 (kn_ge (n := 24) hi (by omega))
    · refine kv_iload_n dX12_bits_10 rfl ?_
      refine kv_iload_n dX12_bits_11 rfl ?_
      refine kv_iload_n dX12_bits_12 rfl ?_
      refine kv_ishr dX12_bits_13 ?_
      refine kv_iconst dX12_bits_14 1 ki_1 ?_
      refine kv_iand dX12_bits_15 ?_
      refine kv_iadd dX12_bits_16 ?_
      refine kv_istore_n (ls2 := [_, _, _]) dX12_bits_17 rfl rfl rfl rfl ?_
      refine kv_iinc (ls2 := [_, _, _]) dX12_bits_18 (nI (i + 1)) rfl (kv_inc1 i) rfl rfl rfl rfl ?_
      refine kv_goto dX12_bits_21 4 (by decide) ?_
      exact KV.loc ih (ksS rfl (ksS rfl (ksS rfl ksN)))

set_option maxRecDepth 20000 in
set_option maxHeartbeats 4000000 in
theorem qX12_carOf {w : KW} {l : Launch} {u : KMem} (hu : kWd u) (x s : Nat) (hx : x < 20) (hs : s < 2) : KC w l mX12_carOf 1 0 0 [.ref 413, .int (nI x), .int (nI s)] u (kq (some (.int (u.2.1 414 (328 + 7 * x + s)))) u) := by
  refine KC.of (ls := [_, _, _]) rfl rfl (Nat.le_of_ble_eq_true rfl) ?_
  refine kv_aload_n dX12_carOf_0 rfl ?_
  refine kv_iload_n dX12_carOf_1 rfl ?_
  refine kv_iconst dX12_carOf_2 0 ki_0 ?_
  refine kv_iload_n dX12_carOf_3 rfl ?_
  refine kv_iadd dX12_carOf_4 ?_
  rw [show (0 : Int32) + nI s = nI (0 + s) from kn_add rfl rfl]
  refine kw_Vi [_, _] mX12_crash_ dX12_carOf_5 lX12_113 wX12_crash_ kC12 hu rfl (by first | rfl | assumption) rfl rfl rfl (kw_eq (qX12_crash_ hu x (0 + s) hx (by omega)) (by rw [Nat.zero_add]) rfl) (by decide) ?_
  exact kv_iret dX12_carOf_8 rfl ⟨rfl, rfl⟩

