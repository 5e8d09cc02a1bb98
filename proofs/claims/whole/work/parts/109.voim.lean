/-! voices of the model -/
def kSN (a k : Nat) : Prop := a = 428 ∨ (a = 413 ∧ (k = 24 ∨ k = 27))
theorem kSN_now (k : Nat) : ¬ kSN 414 k := by unfold kSN; omega
def kVM (u : KMem) (K e : Nat) (s : kVS) (v : KMem) : Prop := kEq kSN u v ∧ v.2.1 428 = s.1 ∧ v.2.1 413 24 = nI s.2.1 ∧ s.2.1 ≤ 30 ∧ v.2.1 413 27 = s.2.2 ∧ (s.2.2 = 0 ∨ s.2.2 = 1) ∧ v.2.1 413 25 = nI e ∧ v.2.1 413 26 = nI K
set_option maxRecDepth 20000 in
set_option maxHeartbeats 4000000 in
theorem qX12_hasOwn_0_0 {w : KW} {l : Launch} {u : KMem} (hu : kWd u) : KC w l mX12_hasOwn 0 0 0 [.int 0, .int 0] u (kq (some (.int 1)) u) := by
  refine KC.of (ls := [_, _]) rfl rfl (Nat.le_of_ble_eq_true rfl) ?_
  refine kv_iload_n dX12_hasOwn_0 rfl ?_
  refine kv_tableIn dX12_hasOwn_1 36 (by decide) (by decide) rfl (by decide) ?_
  refine kv_iconst dX12_hasOwn_36 1 ki_1 ?_
  exact kv_zret dX12_hasOwn_37 rfl kv_z1 ⟨rfl, rfl⟩

set_option maxRecDepth 20000 in
set_option maxHeartbeats 4000000 in
theorem qX12_hasOwn_0_1 {w : KW} {l : Launch} {u : KMem} (hu : kWd u) : KC w l mX12_hasOwn 0 0 0 [.int 0, .int 1] u (kq (some (.int 1)) u) := by
  refine KC.of (ls := [_, _]) rfl rfl (Nat.le_of_ble_eq_true rfl) ?_
  refine kv_iload_n dX12_hasOwn_0 rfl ?_
  refine kv_tableIn dX12_hasOwn_1 36 (by decide) (by decide) rfl (by decide) ?_
  refine kv_iconst dX12_hasOwn_36 1 ki_1 ?_
  exact kv_zret dX12_hasOwn_37 rfl kv_z1 ⟨rfl, rfl⟩

set_option maxRecDepth 20000 in
set_option maxHeartbeats 4000000 in
theorem qX12_hasOwn_0_2 {w : KW} {l : Launch} {u : KMem} (hu : kWd u) : KC w l mX12_hasOwn 0 0 0 [.int 0, .int 2] u (kq (some (.int 1)) u) := by
  refine KC.of (ls := [_, _]) rfl rfl (Nat.le_of_ble_eq_true rfl) ?_
  refine kv_iload_n dX12_hasOwn_0 rfl ?_
  refine kv_tableIn dX12_hasOwn_1 36 (by decide) (by decide) rfl (by decide) ?_
  refine kv_iconst dX12_hasOwn_36 1 ki_1 ?_
  exact kv_zret dX12_hasOwn_37 rfl kv_z1 ⟨rfl, rfl⟩

set_option maxRecDepth 20000 in
set_option maxHeartbeats 4000000 in
theorem qX12_hasOwn_0_3 {w : KW} {l : Launch} {u : KMem} (hu : kWd u) : KC w l mX12_hasOwn 0 0 0 [.int 0, .int 3] u (kq (some (.int 1)) u) := by
  refine KC.of (ls := [_, _]) rfl rfl (Nat.le_of_ble_eq_true rfl) ?_
  refine kv_iload_n dX12_hasOwn_0 rfl ?_
  refine kv_tableIn dX12_hasOwn_1 36 (by decide) (by decide) rfl (by decide) ?_
  refine kv_iconst dX12_hasOwn_36 1 ki_1 ?_
  exact kv_zret dX12_hasOwn_37 rfl kv_z1 ⟨rfl, rfl⟩

set_option maxRecDepth 20000 in
set_option maxHeartbeats 4000000 in
theorem qX12_hasOwn_1_0 {w : KW} {l : Launch} {u : KMem} (hu : kWd u) : KC w l mX12_hasOwn 0 0 0 [.int 1, .int 0] u (kq (some (.int 0)) u) := by
  refine KC.of (ls := [_, _]) rfl rfl (Nat.le_of_ble_eq_true rfl) ?_
  refine kv_iload_n dX12_hasOwn_0 rfl ?_
  refine kv_tableIn dX12_hasOwn_1 38 (by decide) (by decide) rfl (by decide) ?_
  refine kv_iload_n dX12_hasOwn_38 rfl ?_
  refine kv_iconst dX12_hasOwn_39 1 ki_1 ?_
  refine kv_icmp_eq dX12_hasOwn_40 48 (by decide) (fun h1 => ?_) (fun h1 => ?_)
  · exact absurd h1 (by decide)
  · refine kv_iload_n dX12_hasOwn_43 rfl ?_
    refine kv_iconst dX12_hasOwn_44 3 ki_3 ?_
    refine kv_icmp_ne dX12_hasOwn_45 52 (by decide) (fun h2 => ?_) (fun h2 => ?_)
    · refine kv_iconst dX12_hasOwn_52 0 ki_0 ?_
      exact kv_zret dX12_hasOwn_53 rfl kv_z0 ⟨rfl, rfl⟩
    · exact absurd h2 (by decide)

set_option maxRecDepth 20000 in
set_option maxHeartbeats 4000000 in
theorem qX12_hasOwn_1_1 {w : KW} {l : Launch} {u : KMem} (hu : kWd u) : KC w l mX12_hasOwn 0 0 0 [.int 1, .int 1] u (kq (some (.int 1)) u) := by
  refine KC.of (ls := [_, _]) rfl rfl (Nat.le_of_ble_eq_true rfl) ?_
  refine kv_iload_n dX12_hasOwn_0 rfl ?_
  refine kv_tableIn dX12_hasOwn_1 38 (by decide) (by decide) rfl (by decide) ?_
  refine kv_iload_n dX12_hasOwn_38 rfl ?_
  refine kv_iconst dX12_hasOwn_39 1 ki_1 ?_
  refine kv_icmp_eq dX12_hasOwn_40 48 (by decide) (fun h1 => ?_) (fun h1 => ?_)
  · refine kv_iconst dX12_hasOwn_48 1 ki_1 ?_
    refine kv_goto dX12_hasOwn_49 53 (by decide) ?_
    exact kv_zret dX12_hasOwn_53 rfl kv_z1 ⟨rfl, rfl⟩
  · exact absurd h1 (by decide)

set_option maxRecDepth 20000 in
set_option maxHeartbeats 4000000 in
theorem qX12_hasOwn_1_2 {w : KW} {l : Launch} {u : KMem} (hu : kWd u) : KC w l mX12_hasOwn 0 0 0 [.int 1, .int 2] u (kq (some (.int 0)) u) := by
  refine KC.of (ls := [_, _]) rfl rfl (Nat.le_of_ble_eq_true rfl) ?_
  refine kv_iload_n dX12_hasOwn_0 rfl ?_
  refine kv_tableIn dX12_hasOwn_1 38 (by decide) (by decide) rfl (by decide) ?_
  refine kv_iload_n dX12_hasOwn_38 rfl ?_
  refine kv_iconst dX12_hasOwn_39 1 ki_1 ?_
  refine kv_icmp_eq dX12_hasOwn_40 48 (by decide) (fun h1 => ?_) (fun h1 => ?_)
  · exact absurd h1 (by decide)
  · refine kv_iload_n dX12_hasOwn_43 rfl ?_
    refine kv_iconst dX12_hasOwn_44 3 ki_3 ?_
    refine kv_icmp_ne dX12_hasOwn_45 52 (by decide) (fun h2 => ?_) (fun h2 => ?_)
    · refine kv_iconst dX12_hasOwn_52 0 ki_0 ?_
      exact kv_zret dX12_hasOwn_53 rfl kv_z0 ⟨rfl, rfl⟩
    · exact absurd h2 (by decide)

set_option maxRecDepth 20000 in
set_option maxHeartbeats 4000000 in
theorem qX12_hasOwn_1_3 {w : KW} {l : Launch} {u : KMem} (hu : kWd u) : KC w l mX12_hasOwn 0 0 0 [.int 1, .int 3] u (kq (some (.int 1)) u) := by
  refine KC.of (ls := [_, _]) rfl rfl (Nat.le_of_ble_eq_true rfl) ?_
  refine kv_iload_n dX12_hasOwn_0 rfl ?_
  refine kv_tableIn dX12_hasOwn_1 38 (by decide) (by decide) rfl (by decide) ?_
  refine kv_iload_n dX12_hasOwn_38 rfl ?_
  refine kv_iconst dX12_hasOwn_39 1 ki_1 ?_
  refine kv_icmp_eq dX12_hasOwn_40 48 (by decide) (fun h1 => ?_) (fun h1 => ?_)
  · exact absurd h1 (by decide)
  · refine kv_iload_n dX12_hasOwn_43 rfl ?_
    refine kv_iconst dX12_hasOwn_44 3 ki_3 ?_
    refine kv_icmp_ne dX12_hasOwn_45 52 (by decide) (fun h2 => ?_) (fun h2 => ?_)
    · exact absurd h2 (by decide)
    · refine kv_iconst dX12_hasOwn_48 1 ki_1 ?_
      refine kv_goto dX12_hasOwn_49 53 (by decide) ?_
      exact kv_zret dX12_hasOwn_53 rfl kv_z1 ⟨rfl, rfl⟩

set_option maxRecDepth 20000 in
set_option maxHeartbeats 4000000 in
theorem qX12_hasOwn_2_0 {w : KW} {l : Launch} {u : KMem} (hu : kWd u) : KC w l mX12_hasOwn 0 0 0 [.int 2, .int 0] u (kq (some (.int 1)) u) := by
  refine KC.of (ls := [_, _]) rfl rfl (Nat.le_of_ble_eq_true rfl) ?_
  refine kv_iload_n dX12_hasOwn_0 rfl ?_
  refine kv_tableIn dX12_hasOwn_1 64 (by decide) (by decide) rfl (by decide) ?_
  refine kv_iload_n dX12_hasOwn_64 rfl ?_
  refine kv_if_eq dX12_hasOwn_65 73 (by decide) (fun h1 => ?_) (fun h1 => ?_)
  · refine kv_iconst dX12_hasOwn_73 1 ki_1 ?_
    refine kv_goto dX12_hasOwn_74 78 (by decide) ?_
    exact kv_zret dX12_hasOwn_78 rfl kv_z1 ⟨rfl, rfl⟩
  · exact absurd h1 (by decide)

set_option maxRecDepth 20000 in
set_option maxHeartbeats 4000000 in
theorem qX12_hasOwn_2_1 {w : KW} {l : Launch} {u : KMem} (hu : kWd u) : KC w l mX12_hasOwn 0 0 0 [.int 2, .int 1] u (kq (some (.int 0)) u) := by
  refine KC.of (ls := [_, _]) rfl rfl (Nat.le_of_ble_eq_true rfl) ?_
  refine kv_iload_n dX12_hasOwn_0 rfl ?_
  refine kv_tableIn dX12_hasOwn_1 64 (by decide) (by decide) rfl (by decide) ?_
  refine kv_iload_n dX12_hasOwn_64 rfl ?_
  refine kv_if_eq dX12_hasOwn_65 73 (by decide) (fun h1 => ?_) (fun h1 => ?_)
  · exact absurd h1 (by decide)
  · refine kv_iload_n dX12_hasOwn_68 rfl ?_
    refine kv_iconst dX12_hasOwn_69 2 ki_2 ?_
    refine kv_icmp_ne dX12_hasOwn_70 77 (by decide) (fun h2 => ?_) (fun h2 => ?_)
    · refine kv_iconst dX12_hasOwn_77 0 ki_0 ?_
      exact kv_zret dX12_hasOwn_78 rfl kv_z0 ⟨rfl, rfl⟩
    · exact absurd h2 (by decide)

set_option maxRecDepth 20000 in
set_option maxHeartbeats 4000000 in
theorem qX12_hasOwn_2_2 {w : KW} {l : Launch} {u : KMem} (hu : kWd u) : KC w l mX12_hasOwn 0 0 0 [.int 2, .int 2] u (kq (some (.int 1)) u) := by
  refine KC.of (ls := [_, _]) rfl rfl (Nat.le_of_ble_eq_true rfl) ?_
  refine kv_iload_n dX12_hasOwn_0 rfl ?_
  refine kv_tableIn dX12_hasOwn_1 64 (by decide) (by decide) rfl (by decide) ?_
  refine kv_iload_n dX12_hasOwn_64 rfl ?_
  refine kv_if_eq dX12_hasOwn_65 73 (by decide) (fun h1 => ?_) (fun h1 => ?_)
  · exact absurd h1 (by decide)
  · refine kv_iload_n dX12_hasOwn_68 rfl ?_
    refine kv_iconst dX12_hasOwn_69 2 ki_2 ?_
    refine kv_icmp_ne dX12_hasOwn_70 77 (by decide) (fun h2 => ?_) (fun h2 => ?_)
    · exact absurd h2 (by decide)
    · refine kv_iconst dX12_hasOwn_73 1 ki_1 ?_
      refine kv_goto dX12_hasOwn_74 78 (by decide) ?_
      exact kv_zret dX12_hasOwn_78 rfl kv_z1 ⟨rfl, rfl⟩

set_option maxRecDepth 20000 in
set_option maxHeartbeats 4000000 in
theorem qX12_hasOwn_2_3 {w : KW} {l : Launch} {u : KMem} (hu : kWd u) : KC w l mX12_hasOwn 0 0 0 [.int 2, .int 3] u (kq (some (.int 0)) u) := by
  refine KC.of (ls := [_, _]) rfl rfl (Nat.le_of_ble_eq_true rfl) ?_
  refine kv_iload_n dX12_hasOwn_0 rfl ?_
  refine kv_tableIn dX12_hasOwn_1 64 (by decide) (by decide) rfl (by decide) ?_
  refine kv_iload_n dX12_hasOwn_64 rfl ?_
  refine kv_if_eq dX12_hasOwn_65 73 (by decide) (fun h1 => ?_) (fun h1 => ?_)
  · exact absurd h1 (by decide)
  · refine kv_iload_n dX12_hasOwn_68 rfl ?_
    refine kv_iconst dX12_hasOwn_69 2 ki_2 ?_
    refine kv_icmp_ne dX12_hasOwn_70 77 (by decide) (fun h2 => ?_) (fun h2 => ?_)
    · refine kv_iconst dX12_hasOwn_77 0 ki_0 ?_
      exact kv_zret dX12_hasOwn_78 rfl kv_z0 ⟨rfl, rfl⟩
    · exact absurd h2 (by decide)

set_option maxRecDepth 20000 in
set_option maxHeartbeats 4000000 in
theorem qX12_hasOwn_3_0 {w : KW} {l : Launch} {u : KMem} (hu : kWd u) : KC w l mX12_hasOwn 0 0 0 [.int 3, .int 0] u (kq (some (.int 1)) u) := by
  refine KC.of (ls := [_, _]) rfl rfl (Nat.le_of_ble_eq_true rfl) ?_
  refine kv_iload_n dX12_hasOwn_0 rfl ?_
  refine kv_tableIn dX12_hasOwn_1 64 (by decide) (by decide) rfl (by decide) ?_
  refine kv_iload_n dX12_hasOwn_64 rfl ?_
  refine kv_if_eq dX12_hasOwn_65 73 (by decide) (fun h1 => ?_) (fun h1 => ?_)
  · refine kv_iconst dX12_hasOwn_73 1 ki_1 ?_
    refine kv_goto dX12_hasOwn_74 78 (by decide) ?_
    exact kv_zret dX12_hasOwn_78 rfl kv_z1 ⟨rfl, rfl⟩
  · exact absurd h1 (by decide)

set_option maxRecDepth 20000 in
set_option maxHeartbeats 4000000 in
theorem qX12_hasOwn_3_1 {w : KW} {l : Launch} {u : KMem} (hu : kWd u) : KC w l mX12_hasOwn 0 0 0 [.int 3, .int 1] u (kq (some (.int 0)) u) := by
  refine KC.of (ls := [_, _]) rfl rfl (Nat.le_of_ble_eq_true rfl) ?_
  refine kv_iload_n dX12_hasOwn_0 rfl ?_
  refine kv_tableIn dX12_hasOwn_1 64 (by decide) (by decide) rfl (by decide) ?_
  refine kv_iload_n dX12_hasOwn_64 rfl ?_
  refine kv_if_eq dX12_hasOwn_65 73 (by decide) (fun h1 => ?_) (fun h1 => ?_)
  · exact absurd h1 (by decide)
  · refine kv_iload_n dX12_hasOwn_68 rfl ?_
    refine kv_iconst dX12_hasOwn_69 2 ki_2 ?_
    refine kv_icmp_ne dX12_hasOwn_70 77 (by decide) (fun h2 => ?_) (fun h2 => ?_)
    · refine kv_iconst dX12_hasOwn_77 0 ki_0 ?_
      exact kv_zret dX12_hasOwn_78 rfl kv_z0 ⟨rfl, rfl⟩
    · exact absurd h2 (by decide)

set_option maxRecDepth 20000 in
set_option maxHeartbeats 4000000 in
theorem qX12_hasOwn_3_2 {w : KW} {l : Launch} {u : KMem} (hu : kWd u) : KC w l mX12_hasOwn 0 0 0 [.int 3, .int 2] u (kq (some (.int 1)) u) := by
  refine KC.of (ls := [_, _]) rfl rfl (Nat.le_of_ble_eq_true rfl) ?_
  refine kv_iload_n dX12_hasOwn_0 rfl ?_
  refine kv_tableIn dX12_hasOwn_1 64 (by decide) (by decide) rfl (by decide) ?_
  refine kv_iload_n dX12_hasOwn_64 rfl ?_
  refine kv_if_eq dX12_hasOwn_65 73 (by decide) (fun h1 => ?_) (fun h1 => ?_)
  · exact absurd h1 (by decide)
  · refine kv_iload_n dX12_hasOwn_68 rfl ?_
    refine kv_iconst dX12_hasOwn_69 2 ki_2 ?_
    refine kv_icmp_ne dX12_hasOwn_70 77 (by decide) (fun h2 => ?_) (fun h2 => ?_)
    · exact absurd h2 (by decide)
    · refine kv_iconst dX12_hasOwn_73 1 ki_1 ?_
      refine kv_goto dX12_hasOwn_74 78 (by decide) ?_
      exact kv_zret dX12_hasOwn_78 rfl kv_z1 ⟨rfl, rfl⟩

set_option maxRecDepth 20000 in
set_option maxHeartbeats 4000000 in
theorem qX12_hasOwn_3_3 {w : KW} {l : Launch} {u : KMem} (hu : kWd u) : KC w l mX12_hasOwn 0 0 0 [.int 3, .int 3] u (kq (some (.int 0)) u) := by
  refine KC.of (ls := [_, _]) rfl rfl (Nat.le_of_ble_eq_true rfl) ?_
  refine kv_iload_n dX12_hasOwn_0 rfl ?_
  refine kv_tableIn dX12_hasOwn_1 64 (by decide) (by decide) rfl (by decide) ?_
  refine kv_iload_n dX12_hasOwn_64 rfl ?_
  refine kv_if_eq dX12_hasOwn_65 73 (by decide) (fun h1 => ?_) (fun h1 => ?_)
  · exact absurd h1 (by decide)
  · refine kv_iload_n dX12_hasOwn_68 rfl ?_
    refine kv_iconst dX12_hasOwn_69 2 ki_2 ?_
    refine kv_icmp_ne dX12_hasOwn_70 77 (by decide) (fun h2 => ?_) (fun h2 => ?_)
    · refine kv_iconst dX12_hasOwn_77 0 ki_0 ?_
      exact kv_zret dX12_hasOwn_78 rfl kv_z0 ⟨rfl, rfl⟩
    · exact absurd h2 (by decide)

set_option maxRecDepth 20000 in
set_option maxHeartbeats 4000000 in
theorem qX12_hasOwn_4_0 {w : KW} {l : Launch} {u : KMem} (hu : kWd u) : KC w l mX12_hasOwn 0 0 0 [.int 4, .int 0] u (kq (some (.int 0)) u) := by
  refine KC.of (ls := [_, _]) rfl rfl (Nat.le_of_ble_eq_true rfl) ?_
  refine kv_iload_n dX12_hasOwn_0 rfl ?_
  refine kv_tableIn dX12_hasOwn_1 54 (by decide) (by decide) rfl (by decide) ?_
  refine kv_iload_n dX12_hasOwn_54 rfl ?_
  refine kv_if_le dX12_hasOwn_55 62 (by decide) (fun h1 => ?_) (fun h1 => ?_)
  · refine kv_iconst dX12_hasOwn_62 0 ki_0 ?_
    exact kv_zret dX12_hasOwn_63 rfl kv_z0 ⟨rfl, rfl⟩
  · exact absurd h1 (by decide)

set_option maxRecDepth 20000 in
set_option maxHeartbeats 4000000 in
theorem qX12_hasOwn_4_1 {w : KW} {l : Launch} {u : KMem} (hu : kWd u) : KC w l mX12_hasOwn 0 0 0 [.int 4, .int 1] u (kq (some (.int 1)) u) := by
  refine KC.of (ls := [_, _]) rfl rfl (Nat.le_of_ble_eq_true rfl) ?_
  refine kv_iload_n dX12_hasOwn_0 rfl ?_
  refine kv_tableIn dX12_hasOwn_1 54 (by decide) (by decide) rfl (by decide) ?_
  refine kv_iload_n dX12_hasOwn_54 rfl ?_
  refine kv_if_le dX12_hasOwn_55 62 (by decide) (fun h1 => ?_) (fun h1 => ?_)
  · exact absurd h1 (by decide)
  · refine kv_iconst dX12_hasOwn_58 1 ki_1 ?_
    refine kv_goto dX12_hasOwn_59 63 (by decide) ?_
    exact kv_zret dX12_hasOwn_63 rfl kv_z1 ⟨rfl, rfl⟩

set_option maxRecDepth 20000 in
set_option maxHeartbeats 4000000 in
theorem qX12_hasOwn_4_2 {w : KW} {l : Launch} {u : KMem} (hu : kWd u) : KC w l mX12_hasOwn 0 0 0 [.int 4, .int 2] u (kq (some (.int 1)) u) := by
  refine KC.of (ls := [_, _]) rfl rfl (Nat.le_of_ble_eq_true rfl) ?_
  refine kv_iload_n dX12_hasOwn_0 rfl ?_
  refine kv_tableIn dX12_hasOwn_1 54 (by decide) (by decide) rfl (by decide) ?_
  refine kv_iload_n dX12_hasOwn_54 rfl ?_
  refine kv_if_le dX12_hasOwn_55 62 (by decide) (fun h1 => ?_) (fun h1 => ?_)
  · exact absurd h1 (by decide)
  · refine kv_iconst dX12_hasOwn_58 1 ki_1 ?_
    refine kv_goto dX12_hasOwn_59 63 (by decide) ?_
    exact kv_zret dX12_hasOwn_63 rfl kv_z1 ⟨rfl, rfl⟩

set_option maxRecDepth 20000 in
set_option maxHeartbeats 4000000 in
theorem qX12_hasOwn_4_3 {w : KW} {l : Launch} {u : KMem} (hu : kWd u) : KC w l mX12_hasOwn 0 0 0 [.int 4, .int 3] u (kq (some (.int 1)) u) := by
  refine KC.of (ls := [_, _]) rfl rfl (Nat.le_of_ble_eq_true rfl) ?_
  refine kv_iload_n dX12_hasOwn_0 rfl ?_
  refine kv_tableIn dX12_hasOwn_1 54 (by decide) (by decide) rfl (by decide) ?_
  refine kv_iload_n dX12_hasOwn_54 rfl ?_
  refine kv_if_le dX12_hasOwn_55 62 (by decide) (fun h1 => ?_) (fun h1 => ?_)
  · exact absurd h1 (by decide)
  · refine kv_iconst dX12_hasOwn_58 1 ki_1 ?_
    refine kv_goto dX12_hasOwn_59 63 (by decide) ?_
    exact kv_zret dX12_hasOwn_63 rfl kv_z1 ⟨rfl, rfl⟩

set_option maxRecDepth 20000 in
set_option maxHeartbeats 4000000 in
theorem qX12_began {w : KW} {l : Launch} {u v : KMem} (hu : kWd u) {K e : Nat} {s : kVS} (hs : kVM u K e s v) (b : Nat) : KC w l mX12_began 0 0 0 [.ref 413, .int (nI b)] v (fun r z => r = none ∧ kVM u K e (kTr s b) z) := by
  have hv := hs.1.wd hu
  have h30 := hs.2.2.2.1
  refine KC.of (ls := [_, _]) rfl rfl (Nat.le_of_ble_eq_true rfl) ?_
  refine kv_aload_n dX12_began_0 rfl ?_
  refine kw_gI dX12_began_1 fX12_362 hv (by first | rfl | assumption) rfl rfl ?_
  rw [hs.2.2.1]
  refine kv_bipush dX12_began_4 30 kb_30 ?_
  refine kv_icmp_ge dX12_began_6 29 (by decide) (fun h1 => ?_) (fun h1 => ?_)
  · have ht : ¬ s.2.1 < 30 := fun q => nI_ge (b := 30) q (by omega) h1
    have hT : kTr s b = s := if_neg ht
    exact kv_vret dX12_began_29 rfl (by first | exact ⟨rfl, hs2⟩ | exact ⟨rfl, by rw [hT]; exact hs⟩)
  · have ht : s.2.1 < 30 := Nat.lt_of_not_le (fun q => h1 (nI_le (a := 30) q (by omega)))
    have hT : kTr s b = (kSet s.1 s.2.1 (nI b), s.2.1 + 1, s.2.2) := if_pos ht
    have hs2 : kVM u K e (kTr s b) (kv_si (kv_si v 428 s.2.1 (nI b)) 413 24 (nI s.2.1 + 1)) := by
      rw [hT]
      refine ⟨(hs.1.si (Or.inl rfl)).si (Or.inr ⟨rfl, Or.inl rfl⟩), ?_, ?_, ?_, ?_, hs.2.2.2.2.2.1, ?_, ?_⟩
      · rw [kv_si_row (by omega), kv_si_set, hs.2.1]
      · rw [kv_si_s]; exact kn_add rfl (show (1 : Int32) = nI 1 from rfl)
      · show s.2.1 + 1 ≤ 30; omega
      · rw [kv_si_n (by omega), kv_si_a (by decide)]; exact hs.2.2.2.2.1
      · rw [kv_si_n (by omega), kv_si_a (by decide)]; exact hs.2.2.2.2.2.2.1
      · rw [kv_si_n (by omega), kv_si_a (by decide)]; exact hs.2.2.2.2.2.2.2
    refine kv_aload_n dX12_began_9 rfl ?_
    refine kw_gR dX12_began_10 fX12_62 hv (by first | rfl | assumption) rfl rfl (by first | rfl | assumption) ?_
    refine kv_aload_n dX12_began_13 rfl ?_
    refine kw_gI dX12_began_14 fX12_362 hv (by first | rfl | assumption) rfl rfl ?_
    rw [hs.2.2.1]
    refine kv_iload_n dX12_began_17 rfl ?_
    refine kw_is dX12_began_18 hv (by first | rfl | assumption) (s.2.1) rfl (by omega) rfl ?_
    refine kv_aload_n dX12_began_19 rfl ?_
    refine kv_dup dX12_began_20 rfl ?_
    refine kw_gI dX12_began_21 fX12_362 hv (by first | rfl | assumption) rfl rfl ?_
    rw [(kv_si_a (by decide)), hs.2.2.1]
    refine kv_iconst dX12_began_24 1 ki_1 ?_
    refine kv_iadd dX12_began_25 ?_
    refine kw_pI dX12_began_26 fX12_362 hv (by first | rfl | assumption) rfl rfl ?_
    exact kv_vret dX12_began_29 rfl (by first | exact ⟨rfl, hs2⟩ | exact ⟨rfl, by rw [hT]; exact hs⟩)

set_option maxRecDepth 20000 in
set_option maxHeartbeats 4000000 in
theorem qX12_voiced {w : KW} {l : Launch} {u : KMem} (hu : kWd u) {g : Nat → Int32} (eg : u.2.1 414 = g) {K e : Nat} (hK : K < 5) (he : e < 40) {f : Nat} (hI : ∀ (fr act : Nat) (x : Int32) (v : KMem) (s : kVS), fr < 5 → act < 4 → kFu K f fr act = true → kVM u K e s v → KC w l mX12_bodyFrom (3 * f + 2) 0 0 [.ref 413, .int (nI fr), .int (nI act), .int x] v (fun r z => r = some (.int (kSp K (g (1128 + 5 * e + 3)) (nI e) f fr act x s).1) ∧ kVM u K e (kSp K (g (1128 + 5 * e + 3)) (nI e) f fr act x s).2 z)) (act : Nat) (x : Int32) {v : KMem} {s : kVS} (hact : act < 4) (hfu : kFu K f K act = true) (hs : kVM u K e s v) : KC w l mX12_voiced (3 * f + 3) 0 0 [.ref 413, .int (nI act), .int x] v (fun r z => r = some (.int ((kSp K (g (1128 + 5 * e + 3)) (nI e) f) K act x s).1) ∧ kVM u K e ((kSp K (g (1128 + 5 * e + 3)) (nI e) f) K act x s).2 z) := by
  have hv := hs.1.wd hu
  refine KC.of (ls := [_, _, _]) rfl rfl (Nat.le_of_ble_eq_true rfl) ?_
  refine kv_aload_n dX12_voiced_0 rfl ?_
  refine kv_aload_n dX12_voiced_1 rfl ?_
  refine kw_gI dX12_voiced_2 fX12_365 hv (by first | rfl | assumption) rfl rfl ?_
  rw [hs.2.2.2.2.2.2.2]
  refine kv_iload_n dX12_voiced_5 rfl ?_
  refine kv_iload_n dX12_voiced_6 rfl ?_
  refine kw_VQ [_, _, _] mX12_bodyFrom dX12_voiced_7 lX12_368 wX12_bodyFrom kC12 hv rfl (by first | rfl | assumption) rfl rfl rfl (hI K act x v s hK hact hfu hs) (by omega) (fun _ v1 q1 => ?_)
  obtain ⟨rfl, hs1⟩ := q1
  have hv1 := hs1.1.wd hu
  exact kv_iret dX12_voiced_10 rfl ⟨rfl, hs1⟩

set_option maxRecDepth 20000 in
set_option maxHeartbeats 4000000 in
theorem qX12_body_10 {w : KW} {l : Launch} {u : KMem} (hu : kWd u) {g : Nat → Int32} (eg : u.2.1 414 = g) {K e : Nat} (hK : K < 5) (he : e < 40) {f : Nat} (hI : ∀ (fr act : Nat) (x : Int32) (v : KMem) (s : kVS), fr < 5 → act < 4 → kFu K f fr act = true → kVM u K e s v → KC w l mX12_bodyFrom (3 * f + 2) 0 0 [.ref 413, .int (nI fr), .int (nI act), .int x] v (fun r z => r = some (.int (kSp K (g (1128 + 5 * e + 3)) (nI e) f fr act x s).1) ∧ kVM u K e (kSp K (g (1128 + 5 * e + 3)) (nI e) f fr act x s).2 z)) (x : Int32) {v : KMem} {s : kVS} (hs : kVM u K e s v) (hp0 : s.2.2 = 0) (hfu : (kSub K 10).all (fun q => kFu K f q.1 q.2) = true) : KC w l mX12_body (3 * f + 4) 0 0 [.ref 413, .int 0, .int 0, .int x] v (fun r z => r = some (.int (kWk (kSp K (g (1128 + 5 * e + 3)) (nI e) f) K (g (1128 + 5 * e + 3)) (nI e) 10 x (kTr s 10)).1) ∧ kVM u K e (kWk (kSp K (g (1128 + 5 * e + 3)) (nI e) f) K (g (1128 + 5 * e + 3)) (nI e) 10 x (kTr s 10)).2 z) := by
  have hv := hs.1.wd hu
  have egv : v.2.1 414 = g := (hs.1.row kSN_now).trans eg
  refine KC.of (ls := [_, _, _, _, _, _]) rfl rfl (Nat.le_of_ble_eq_true rfl) ?_
  refine kv_aload_n dX12_body_0 rfl ?_
  refine kv_aload_n dX12_body_1 rfl ?_
  refine kw_gI dX12_body_2 fX12_380 hv (by first | rfl | assumption) rfl rfl ?_
  rw [hs.2.2.2.2.2.2.1]
  refine kv_iconst dX12_body_5 3 ki_3 ?_
  refine kw_Vi [_, _] mX12_line dX12_body_6 lX12_292 wX12_line kC12 hv rfl (by first | rfl | assumption) rfl rfl rfl (gX12_line hv egv e 3 (by omega) (by omega)) (by omega) ?_
  refine kv_istore (ls2 := [_, _, _, _, _, _]) dX12_body_9 rfl rfl rfl rfl ?_
  refine kv_iconst dX12_body_11 4 ki_4 ?_
  refine kv_iload_n dX12_body_12 rfl ?_
  refine kv_imul dX12_body_13 ?_
  rw [show ((4 : Int32) * 0) = 0 from rfl]
  refine kv_iload_n dX12_body_14 rfl ?_
  refine kv_iadd dX12_body_15 ?_
  rw [show ((0 : Int32) + 0) = 0 from rfl]
  refine kv_tableIn dX12_body_16 108 (by decide) (by decide) rfl (by decide) ?_
  refine kv_aload_n dX12_body_108 rfl ?_
  refine kv_bipush dX12_body_109 10 kb_10 ?_
  refine kw_VQ [_] mX12_began dX12_body_111 lX12_383 wX12_began kC12 hv rfl (by first | rfl | assumption) rfl rfl rfl (qX12_began hu hs 10) (by omega) (fun _ v0 q0 => ?_)
  obtain ⟨rfl, hs0⟩ := q0
  have hv0 := hs0.1.wd hu
  refine kv_iload_n dX12_body_114 rfl ?_
  refine kv_iload dX12_body_115 rfl ?_
  refine kv_iadd dX12_body_117 ?_
  exact kv_iret dX12_body_118 rfl ⟨rfl, hs0⟩

set_option maxRecDepth 20000 in
set_option maxHeartbeats 4000000 in
theorem qX12_body_11 {w : KW} {l : Launch} {u : KMem} (hu : kWd u) {g : Nat → Int32} (eg : u.2.1 414 = g) {K e : Nat} (hK : K < 5) (he : e < 40) {f : Nat} (hI : ∀ (fr act : Nat) (x : Int32) (v : KMem) (s : kVS), fr < 5 → act < 4 → kFu K f fr act = true → kVM u K e s v → KC w l mX12_bodyFrom (3 * f + 2) 0 0 [.ref 413, .int (nI fr), .int (nI act), .int x] v (fun r z => r = some (.int (kSp K (g (1128 + 5 * e + 3)) (nI e) f fr act x s).1) ∧ kVM u K e (kSp K (g (1128 + 5 * e + 3)) (nI e) f fr act x s).2 z)) (x : Int32) {v : KMem} {s : kVS} (hs : kVM u K e s v) (hp0 : s.2.2 = 0) (hfu : (kSub K 11).all (fun q => kFu K f q.1 q.2) = true) : KC w l mX12_body (3 * f + 4) 0 0 [.ref 413, .int 0, .int 1, .int x] v (fun r z => r = some (.int (kWk (kSp K (g (1128 + 5 * e + 3)) (nI e) f) K (g (1128 + 5 * e + 3)) (nI e) 11 x (kTr s 11)).1) ∧ kVM u K e (kWk (kSp K (g (1128 + 5 * e + 3)) (nI e) f) K (g (1128 + 5 * e + 3)) (nI e) 11 x (kTr s 11)).2 z) := by
  have hv := hs.1.wd hu
  have egv : v.2.1 414 = g := (hs.1.row kSN_now).trans eg
  refine KC.of (ls := [_, _, _, _, _, _]) rfl rfl (Nat.le_of_ble_eq_true rfl) ?_
  have hf : (kFu K f K 0 && true) = true := hfu
  simp only [Bool.and_true, Bool.and_eq_true] at hf
  refine kv_aload_n dX12_body_0 rfl ?_
  refine kv_aload_n dX12_body_1 rfl ?_
  refine kw_gI dX12_body_2 fX12_380 hv (by first | rfl | assumption) rfl rfl ?_
  rw [hs.2.2.2.2.2.2.1]
  refine kv_iconst dX12_body_5 3 ki_3 ?_
  refine kw_Vi [_, _] mX12_line dX12_body_6 lX12_292 wX12_line kC12 hv rfl (by first | rfl | assumption) rfl rfl rfl (gX12_line hv egv e 3 (by omega) (by omega)) (by omega) ?_
  refine kv_istore (ls2 := [_, _, _, _, _, _]) dX12_body_9 rfl rfl rfl rfl ?_
  refine kv_iconst dX12_body_11 4 ki_4 ?_
  refine kv_iload_n dX12_body_12 rfl ?_
  refine kv_imul dX12_body_13 ?_
  rw [show ((4 : Int32) * 0) = 0 from rfl]
  refine kv_iload_n dX12_body_14 rfl ?_
  refine kv_iadd dX12_body_15 ?_
  rw [show ((0 : Int32) + 1) = 1 from rfl]
  refine kv_tableIn dX12_body_16 119 (by decide) (by decide) rfl (by decide) ?_
  refine kv_aload_n dX12_body_119 rfl ?_
  refine kv_bipush dX12_body_120 11 kb_11 ?_
  refine kw_VQ [_] mX12_began dX12_body_122 lX12_383 wX12_began kC12 hv rfl (by first | rfl | assumption) rfl rfl rfl (qX12_began hu hs 11) (by omega) (fun _ v0 q0 => ?_)
  obtain ⟨rfl, hs0⟩ := q0
  have hv0 := hs0.1.wd hu
  refine kv_aload_n dX12_body_125 rfl ?_
  refine kv_iconst dX12_body_126 0 ki_0 ?_
  refine kv_iload_n dX12_body_127 rfl ?_
  refine kw_VQ [_, _] mX12_voiced dX12_body_128 lX12_386 wX12_voiced kC12 hv0 rfl (by first | rfl | assumption) rfl rfl rfl (qX12_voiced hu eg hK he hI 0 _ (by omega) hf hs0) (by omega) (fun _ v1 q1 => ?_)
  obtain ⟨rfl, hs1⟩ := q1
  have hv1 := hs1.1.wd hu
  refine kv_iconst dX12_body_131 2 ki_2 ?_
  refine kv_imul dX12_body_132 ?_
  exact kv_iret dX12_body_133 rfl ⟨rfl, hs1⟩

set_option maxRecDepth 20000 in
set_option maxHeartbeats 4000000 in
theorem qX12_body_12 {w : KW} {l : Launch} {u : KMem} (hu : kWd u) {g : Nat → Int32} (eg : u.2.1 414 = g) {K e : Nat} (hK : K < 5) (he : e < 40) {f : Nat} (hI : ∀ (fr act : Nat) (x : Int32) (v : KMem) (s : kVS), fr < 5 → act < 4 → kFu K f fr act = true → kVM u K e s v → KC w l mX12_bodyFrom (3 * f + 2) 0 0 [.ref 413, .int (nI fr), .int (nI act), .int x] v (fun r z => r = some (.int (kSp K (g (1128 + 5 * e + 3)) (nI e) f fr act x s).1) ∧ kVM u K e (kSp K (g (1128 + 5 * e + 3)) (nI e) f fr act x s).2 z)) (x : Int32) {v : KMem} {s : kVS} (hs : kVM u K e s v) (hp0 : s.2.2 = 0) (hfu : (kSub K 12).all (fun q => kFu K f q.1 q.2) = true) : KC w l mX12_body (3 * f + 4) 0 0 [.ref 413, .int 0, .int 2, .int x] v (fun r z => r = some (.int (kWk (kSp K (g (1128 + 5 * e + 3)) (nI e) f) K (g (1128 + 5 * e + 3)) (nI e) 12 x (kTr s 12)).1) ∧ kVM u K e (kWk (kSp K (g (1128 + 5 * e + 3)) (nI e) f) K (g (1128 + 5 * e + 3)) (nI e) 12 x (kTr s 12)).2 z) := by
  have hv := hs.1.wd hu
  have egv : v.2.1 414 = g := (hs.1.row kSN_now).trans eg
  refine KC.of (ls := [_, _, _, _, _, _]) rfl rfl (Nat.le_of_ble_eq_true rfl) ?_
  have hf : (kFu K f K 1 && true) = true := hfu
  simp only [Bool.and_true, Bool.and_eq_true] at hf
  refine kv_aload_n dX12_body_0 rfl ?_
  refine kv_aload_n dX12_body_1 rfl ?_
  refine kw_gI dX12_body_2 fX12_380 hv (by first | rfl | assumption) rfl rfl ?_
  rw [hs.2.2.2.2.2.2.1]
  refine kv_iconst dX12_body_5 3 ki_3 ?_
  refine kw_Vi [_, _] mX12_line dX12_body_6 lX12_292 wX12_line kC12 hv rfl (by first | rfl | assumption) rfl rfl rfl (gX12_line hv egv e 3 (by omega) (by omega)) (by omega) ?_
  refine kv_istore (ls2 := [_, _, _, _, _, _]) dX12_body_9 rfl rfl rfl rfl ?_
  refine kv_iconst dX12_body_11 4 ki_4 ?_
  refine kv_iload_n dX12_body_12 rfl ?_
  refine kv_imul dX12_body_13 ?_
  rw [show ((4 : Int32) * 0) = 0 from rfl]
  refine kv_iload_n dX12_body_14 rfl ?_
  refine kv_iadd dX12_body_15 ?_
  rw [show ((0 : Int32) + 2) = 2 from rfl]
  refine kv_tableIn dX12_body_16 134 (by decide) (by decide) rfl (by decide) ?_
  refine kv_aload_n dX12_body_134 rfl ?_
  refine kv_bipush dX12_body_135 12 kb_12 ?_
  refine kw_VQ [_] mX12_began dX12_body_137 lX12_383 wX12_began kC12 hv rfl (by first | rfl | assumption) rfl rfl rfl (qX12_began hu hs 12) (by omega) (fun _ v0 q0 => ?_)
  obtain ⟨rfl, hs0⟩ := q0
  have hv0 := hs0.1.wd hu
  refine kv_aload_n dX12_body_140 rfl ?_
  refine kv_iconst dX12_body_141 1 ki_1 ?_
  refine kv_iload_n dX12_body_142 rfl ?_
  refine kw_VQ [_, _] mX12_voiced dX12_body_143 lX12_386 wX12_voiced kC12 hv0 rfl (by first | rfl | assumption) rfl rfl rfl (qX12_voiced hu eg hK he hI 1 _ (by omega) hf hs0) (by omega) (fun _ v1 q1 => ?_)
  obtain ⟨rfl, hs1⟩ := q1
  have hv1 := hs1.1.wd hu
  refine kv_aload_n dX12_body_146 rfl ?_
  refine kw_gI dX12_body_147 fX12_380 hv1 (by first | rfl | assumption) rfl rfl ?_
  rw [hs1.2.2.2.2.2.2.1]
  refine kv_isub dX12_body_150 ?_
  exact kv_iret dX12_body_151 rfl ⟨rfl, hs1⟩

set_option maxRecDepth 20000 in
set_option maxHeartbeats 4000000 in
theorem qX12_body_13 {w : KW} {l : Launch} {u : KMem} (hu : kWd u) {g : Nat → Int32} (eg : u.2.1 414 = g) {K e : Nat} (hK : K < 5) (he : e < 40) {f : Nat} (hI : ∀ (fr act : Nat) (x : Int32) (v : KMem) (s : kVS), fr < 5 → act < 4 → kFu K f fr act = true → kVM u K e s v → KC w l mX12_bodyFrom (3 * f + 2) 0 0 [.ref 413, .int (nI fr), .int (nI act), .int x] v (fun r z => r = some (.int (kSp K (g (1128 + 5 * e + 3)) (nI e) f fr act x s).1) ∧ kVM u K e (kSp K (g (1128 + 5 * e + 3)) (nI e) f fr act x s).2 z)) (x : Int32) {v : KMem} {s : kVS} (hs : kVM u K e s v) (hp0 : s.2.2 = 0) (hfu : (kSub K 13).all (fun q => kFu K f q.1 q.2) = true) : KC w l mX12_body (3 * f + 4) 0 0 [.ref 413, .int 0, .int 3, .int x] v (fun r z => r = some (.int (kWk (kSp K (g (1128 + 5 * e + 3)) (nI e) f) K (g (1128 + 5 * e + 3)) (nI e) 13 x (kTr s 13)).1) ∧ kVM u K e (kWk (kSp K (g (1128 + 5 * e + 3)) (nI e) f) K (g (1128 + 5 * e + 3)) (nI e) 13 x (kTr s 13)).2 z) := by
  have hv := hs.1.wd hu
  have egv : v.2.1 414 = g := (hs.1.row kSN_now).trans eg
  refine KC.of (ls := [_, _, _, _, _, _]) rfl rfl (Nat.le_of_ble_eq_true rfl) ?_
  refine kv_aload_n dX12_body_0 rfl ?_
  refine kv_aload_n dX12_body_1 rfl ?_
  refine kw_gI dX12_body_2 fX12_380 hv (by first | rfl | assumption) rfl rfl ?_
  rw [hs.2.2.2.2.2.2.1]
  refine kv_iconst dX12_body_5 3 ki_3 ?_
  refine kw_Vi [_, _] mX12_line dX12_body_6 lX12_292 wX12_line kC12 hv rfl (by first | rfl | assumption) rfl rfl rfl (gX12_line hv egv e 3 (by omega) (by omega)) (by omega) ?_
  refine kv_istore (ls2 := [_, _, _, _, _, _]) dX12_body_9 rfl rfl rfl rfl ?_
  refine kv_iconst dX12_body_11 4 ki_4 ?_
  refine kv_iload_n dX12_body_12 rfl ?_
  refine kv_imul dX12_body_13 ?_
  rw [show ((4 : Int32) * 0) = 0 from rfl]
  refine kv_iload_n dX12_body_14 rfl ?_
  refine kv_iadd dX12_body_15 ?_
  rw [show ((0 : Int32) + 3) = 3 from rfl]
  refine kv_tableIn dX12_body_16 152 (by decide) (by decide) rfl (by decide) ?_
  refine kv_aload_n dX12_body_152 rfl ?_
  refine kv_bipush dX12_body_153 13 kb_13 ?_
  refine kw_VQ [_] mX12_began dX12_body_155 lX12_383 wX12_began kC12 hv rfl (by first | rfl | assumption) rfl rfl rfl (qX12_began hu hs 13) (by omega) (fun _ v0 q0 => ?_)
  obtain ⟨rfl, hs0⟩ := q0
  have hv0 := hs0.1.wd hu
  refine kv_aload_n dX12_body_158 rfl ?_
  refine kv_iload dX12_body_159 rfl ?_
  refine kv_aload_n dX12_body_161 rfl ?_
  refine kw_gI dX12_body_162 fX12_380 hv0 (by first | rfl | assumption) rfl rfl ?_
  rw [hs0.2.2.2.2.2.2.1]
  refine kv_icmp_ne dX12_body_165 172 (by decide) (fun h1 => ?_) (fun h1 => ?_)
  · have hp := h1
    refine kv_iconst dX12_body_172 0 ki_0 ?_
    refine kw_pZ dX12_body_173 fX12_374 hv0 (by first | rfl | assumption) rfl rfl (by first | exact Or.inl rfl | exact Or.inr rfl | assumption) ?_
    refine kv_aload_n dX12_body_176 rfl ?_
    refine kw_gI dX12_body_177 fX12_374 hv0 (by first | rfl | assumption) rfl rfl ?_
    rw [kv_si_s]
    refine kv_if_eq dX12_body_180 187 (by decide) (fun h2 => ?_) (fun h2 => ?_)
    · refine kv_iload_n dX12_body_187 rfl ?_
      refine kv_iload dX12_body_188 rfl ?_
      refine kv_aload_n dX12_body_190 rfl ?_
      refine kw_gI dX12_body_191 fX12_380 hv0 (by first | rfl | assumption) rfl rfl ?_
      rw [kv_si_n (by omega), hs0.2.2.2.2.2.2.1]
      refine kv_isub dX12_body_194 ?_
      refine kv_idiv dX12_body_195 (fun q => hp (by rw [← Int32.sub_add_cancel (g (1128 + 5 * e + 3)) (nI e), q, Int32.zero_add])) ?_
      exact kv_iret dX12_body_196 rfl (by show _ = some (Value.int ((if g (1128 + 5 * e + 3) = nI e then ((0 : Int32), (((kTr s 13).1, (kTr s 13).2.1, 1) : kVS)) else (x / (g (1128 + 5 * e + 3) - nI e), kTr s 13))).1) ∧ kVM u K e ((if g (1128 + 5 * e + 3) = nI e then ((0 : Int32), (((kTr s 13).1, (kTr s 13).2.1, 1) : kVS)) else (x / (g (1128 + 5 * e + 3) - nI e), kTr s 13))).2 _; first | (rw [if_pos hp]; exact ⟨rfl, ⟨hs0.1.si (Or.inr ⟨rfl, Or.inr rfl⟩), (kv_si_row (by omega)).trans hs0.2.1, (kv_si_n (by omega)).trans hs0.2.2.1, hs0.2.2.2.1, kv_si_s _ _ _ _, Or.inr rfl, (kv_si_n (by omega)).trans hs0.2.2.2.2.2.2.1, (kv_si_n (by omega)).trans hs0.2.2.2.2.2.2.2⟩⟩) | (rw [if_neg hp]; exact ⟨rfl, ⟨hs0.1.si (Or.inr ⟨rfl, Or.inr rfl⟩), (kv_si_row (by omega)).trans hs0.2.1, (kv_si_n (by omega)).trans hs0.2.2.1, hs0.2.2.2.1, (kv_si_s _ _ _ _).trans ((kTr_2 s 13).trans hp0).symm, hs0.2.2.2.2.2.1, (kv_si_n (by omega)).trans hs0.2.2.2.2.2.2.1, (kv_si_n (by omega)).trans hs0.2.2.2.2.2.2.2⟩⟩))
    · exact absurd rfl h2
  · have hp := h1
    refine kv_iconst dX12_body_168 1 ki_1 ?_
    refine kv_goto dX12_body_169 173 (by decide) ?_
    refine kw_pZ dX12_body_173 fX12_374 hv0 (by first | rfl | assumption) rfl rfl (by first | exact Or.inl rfl | exact Or.inr rfl | assumption) ?_
    refine kv_aload_n dX12_body_176 rfl ?_
    refine kw_gI dX12_body_177 fX12_374 hv0 (by first | rfl | assumption) rfl rfl ?_
    rw [kv_si_s]
    refine kv_if_eq dX12_body_180 187 (by decide) (fun h3 => ?_) (fun h3 => ?_)
    · exact absurd h3 (by decide)
    · refine kv_iconst dX12_body_183 0 ki_0 ?_
      refine kv_goto dX12_body_184 196 (by decide) ?_
      exact kv_iret dX12_body_196 rfl (by show _ = some (Value.int ((if g (1128 + 5 * e + 3) = nI e then ((0 : Int32), (((kTr s 13).1, (kTr s 13).2.1, 1) : kVS)) else (x / (g (1128 + 5 * e + 3) - nI e), kTr s 13))).1) ∧ kVM u K e ((if g (1128 + 5 * e + 3) = nI e then ((0 : Int32), (((kTr s 13).1, (kTr s 13).2.1, 1) : kVS)) else (x / (g (1128 + 5 * e + 3) - nI e), kTr s 13))).2 _; first | (rw [if_pos hp]; exact ⟨rfl, ⟨hs0.1.si (Or.inr ⟨rfl, Or.inr rfl⟩), (kv_si_row (by omega)).trans hs0.2.1, (kv_si_n (by omega)).trans hs0.2.2.1, hs0.2.2.2.1, kv_si_s _ _ _ _, Or.inr rfl, (kv_si_n (by omega)).trans hs0.2.2.2.2.2.2.1, (kv_si_n (by omega)).trans hs0.2.2.2.2.2.2.2⟩⟩) | (rw [if_neg hp]; exact ⟨rfl, ⟨hs0.1.si (Or.inr ⟨rfl, Or.inr rfl⟩), (kv_si_row (by omega)).trans hs0.2.1, (kv_si_n (by omega)).trans hs0.2.2.1, hs0.2.2.2.1, (kv_si_s _ _ _ _).trans ((kTr_2 s 13).trans hp0).symm, hs0.2.2.2.2.2.1, (kv_si_n (by omega)).trans hs0.2.2.2.2.2.2.1, (kv_si_n (by omega)).trans hs0.2.2.2.2.2.2.2⟩⟩))

set_option maxRecDepth 20000 in
set_option maxHeartbeats 4000000 in
theorem qX12_body_20 {w : KW} {l : Launch} {u : KMem} (hu : kWd u) {g : Nat → Int32} (eg : u.2.1 414 = g) {K e : Nat} (hK : K < 5) (he : e < 40) {f : Nat} (hI : ∀ (fr act : Nat) (x : Int32) (v : KMem) (s : kVS), fr < 5 → act < 4 → kFu K f fr act = true → kVM u K e s v → KC w l mX12_bodyFrom (3 * f + 2) 0 0 [.ref 413, .int (nI fr), .int (nI act), .int x] v (fun r z => r = some (.int (kSp K (g (1128 + 5 * e + 3)) (nI e) f fr act x s).1) ∧ kVM u K e (kSp K (g (1128 + 5 * e + 3)) (nI e) f fr act x s).2 z)) (x : Int32) {v : KMem} {s : kVS} (hs : kVM u K e s v) (hp0 : s.2.2 = 0) (hfu : (kSub K 20).all (fun q => kFu K f q.1 q.2) = true) : KC w l mX12_body (3 * f + 4) 0 0 [.ref 413, .int 1, .int 1, .int x] v (fun r z => r = some (.int (kWk (kSp K (g (1128 + 5 * e + 3)) (nI e) f) K (g (1128 + 5 * e + 3)) (nI e) 20 x (kTr s 20)).1) ∧ kVM u K e (kWk (kSp K (g (1128 + 5 * e + 3)) (nI e) f) K (g (1128 + 5 * e + 3)) (nI e) 20 x (kTr s 20)).2 z) := by
  have hv := hs.1.wd hu
  have egv : v.2.1 414 = g := (hs.1.row kSN_now).trans eg
  refine KC.of (ls := [_, _, _, _, _, _]) rfl rfl (Nat.le_of_ble_eq_true rfl) ?_
  have hf : (kFu K f 0 1 && true) = true := hfu
  simp only [Bool.and_true, Bool.and_eq_true] at hf
  refine kv_aload_n dX12_body_0 rfl ?_
  refine kv_aload_n dX12_body_1 rfl ?_
  refine kw_gI dX12_body_2 fX12_380 hv (by first | rfl | assumption) rfl rfl ?_
  rw [hs.2.2.2.2.2.2.1]
  refine kv_iconst dX12_body_5 3 ki_3 ?_
  refine kw_Vi [_, _] mX12_line dX12_body_6 lX12_292 wX12_line kC12 hv rfl (by first | rfl | assumption) rfl rfl rfl (gX12_line hv egv e 3 (by omega) (by omega)) (by omega) ?_
  refine kv_istore (ls2 := [_, _, _, _, _, _]) dX12_body_9 rfl rfl rfl rfl ?_
  refine kv_iconst dX12_body_11 4 ki_4 ?_
  refine kv_iload_n dX12_body_12 rfl ?_
  refine kv_imul dX12_body_13 ?_
  rw [show ((4 : Int32) * 1) = 4 from rfl]
  refine kv_iload_n dX12_body_14 rfl ?_
  refine kv_iadd dX12_body_15 ?_
  rw [show ((4 : Int32) + 1) = 5 from rfl]
  refine kv_tableIn dX12_body_16 197 (by decide) (by decide) rfl (by decide) ?_
  refine kv_aload_n dX12_body_197 rfl ?_
  refine kv_bipush dX12_body_198 20 kb_20 ?_
  refine kw_VQ [_] mX12_began dX12_body_200 lX12_383 wX12_began kC12 hv rfl (by first | rfl | assumption) rfl rfl rfl (qX12_began hu hs 20) (by omega) (fun _ v0 q0 => ?_)
  obtain ⟨rfl, hs0⟩ := q0
  have hv0 := hs0.1.wd hu
  refine kv_aload_n dX12_body_203 rfl ?_
  refine kv_iconst dX12_body_204 0 ki_0 ?_
  refine kv_iconst dX12_body_205 1 ki_1 ?_
  refine kv_iload_n dX12_body_206 rfl ?_
  refine kw_VQ [_, _, _] mX12_bodyFrom dX12_body_207 lX12_368 wX12_bodyFrom kC12 hv0 rfl (by first | rfl | assumption) rfl rfl rfl (hI 0 1 _ _ _ (by omega) (by omega) hf hs0) (by omega) (fun _ v1 q1 => ?_)
  obtain ⟨rfl, hs1⟩ := q1
  have hv1 := hs1.1.wd hu
  refine kv_iconst dX12_body_210 1 ki_1 ?_
  refine kv_iadd dX12_body_211 ?_
  exact kv_iret dX12_body_212 rfl ⟨rfl, hs1⟩

set_option maxRecDepth 20000 in
set_option maxHeartbeats 4000000 in
theorem qX12_body_21 {w : KW} {l : Launch} {u : KMem} (hu : kWd u) {g : Nat → Int32} (eg : u.2.1 414 = g) {K e : Nat} (hK : K < 5) (he : e < 40) {f : Nat} (hI : ∀ (fr act : Nat) (x : Int32) (v : KMem) (s : kVS), fr < 5 → act < 4 → kFu K f fr act = true → kVM u K e s v → KC w l mX12_bodyFrom (3 * f + 2) 0 0 [.ref 413, .int (nI fr), .int (nI act), .int x] v (fun r z => r = some (.int (kSp K (g (1128 + 5 * e + 3)) (nI e) f fr act x s).1) ∧ kVM u K e (kSp K (g (1128 + 5 * e + 3)) (nI e) f fr act x s).2 z)) (x : Int32) {v : KMem} {s : kVS} (hs : kVM u K e s v) (hp0 : s.2.2 = 0) (hfu : (kSub K 21).all (fun q => kFu K f q.1 q.2) = true) : KC w l mX12_body (3 * f + 4) 0 0 [.ref 413, .int 1, .int 3, .int x] v (fun r z => r = some (.int (kWk (kSp K (g (1128 + 5 * e + 3)) (nI e) f) K (g (1128 + 5 * e + 3)) (nI e) 21 x (kTr s 21)).1) ∧ kVM u K e (kWk (kSp K (g (1128 + 5 * e + 3)) (nI e) f) K (g (1128 + 5 * e + 3)) (nI e) 21 x (kTr s 21)).2 z) := by
  have hv := hs.1.wd hu
  have egv : v.2.1 414 = g := (hs.1.row kSN_now).trans eg
  refine KC.of (ls := [_, _, _, _, _, _]) rfl rfl (Nat.le_of_ble_eq_true rfl) ?_
  have hf : (kFu K f 0 3 && (kFu K f K 2 && true)) = true := hfu
  simp only [Bool.and_true, Bool.and_eq_true] at hf
  refine kv_aload_n dX12_body_0 rfl ?_
  refine kv_aload_n dX12_body_1 rfl ?_
  refine kw_gI dX12_body_2 fX12_380 hv (by first | rfl | assumption) rfl rfl ?_
  rw [hs.2.2.2.2.2.2.1]
  refine kv_iconst dX12_body_5 3 ki_3 ?_
  refine kw_Vi [_, _] mX12_line dX12_body_6 lX12_292 wX12_line kC12 hv rfl (by first | rfl | assumption) rfl rfl rfl (gX12_line hv egv e 3 (by omega) (by omega)) (by omega) ?_
  refine kv_istore (ls2 := [_, _, _, _, _, _]) dX12_body_9 rfl rfl rfl rfl ?_
  refine kv_iconst dX12_body_11 4 ki_4 ?_
  refine kv_iload_n dX12_body_12 rfl ?_
  refine kv_imul dX12_body_13 ?_
  rw [show ((4 : Int32) * 1) = 4 from rfl]
  refine kv_iload_n dX12_body_14 rfl ?_
  refine kv_iadd dX12_body_15 ?_
  rw [show ((4 : Int32) + 3) = 7 from rfl]
  refine kv_tableIn dX12_body_16 213 (by decide) (by decide) rfl (by decide) ?_
  refine kv_aload_n dX12_body_213 rfl ?_
  refine kv_bipush dX12_body_214 21 kb_21 ?_
  refine kw_VQ [_] mX12_began dX12_body_216 lX12_383 wX12_began kC12 hv rfl (by first | rfl | assumption) rfl rfl rfl (qX12_began hu hs 21) (by omega) (fun _ v0 q0 => ?_)
  obtain ⟨rfl, hs0⟩ := q0
  have hv0 := hs0.1.wd hu
  refine kv_aload_n dX12_body_219 rfl ?_
  refine kv_iconst dX12_body_220 0 ki_0 ?_
  refine kv_iconst dX12_body_221 3 ki_3 ?_
  refine kv_iload_n dX12_body_222 rfl ?_
  refine kw_VQ [_, _, _] mX12_bodyFrom dX12_body_223 lX12_368 wX12_bodyFrom kC12 hv0 rfl (by first | rfl | assumption) rfl rfl rfl (hI 0 3 _ _ _ (by omega) (by omega) hf.1 hs0) (by omega) (fun _ v1 q1 => ?_)
  obtain ⟨rfl, hs1⟩ := q1
  have hv1 := hs1.1.wd hu
  refine kv_istore (ls2 := [_, _, _, _, _, _]) dX12_body_226 rfl rfl rfl rfl ?_
  refine kv_iload dX12_body_228 rfl ?_
  refine kv_aload_n dX12_body_230 rfl ?_
  refine kv_iconst dX12_body_231 2 ki_2 ?_
  refine kv_iconst dX12_body_232 1 ki_1 ?_
  refine kw_VQ [_, _] mX12_voiced dX12_body_233 lX12_386 wX12_voiced kC12 hv1 rfl (by first | rfl | assumption) rfl rfl rfl (qX12_voiced hu eg hK he hI 2 _ (by omega) hf.2 hs1) (by omega) (fun _ v2 q2 => ?_)
  obtain ⟨rfl, hs2⟩ := q2
  have hv2 := hs2.1.wd hu
  refine kv_iadd dX12_body_236 ?_
  exact kv_iret dX12_body_237 rfl ⟨rfl, hs2⟩

set_option maxRecDepth 20000 in
set_option maxHeartbeats 4000000 in
theorem qX12_body_30 {w : KW} {l : Launch} {u : KMem} (hu : kWd u) {g : Nat → Int32} (eg : u.2.1 414 = g) {K e : Nat} (hK : K < 5) (he : e < 40) {f : Nat} (hI : ∀ (fr act : Nat) (x : Int32) (v : KMem) (s : kVS), fr < 5 → act < 4 → kFu K f fr act = true → kVM u K e s v → KC w l mX12_bodyFrom (3 * f + 2) 0 0 [.ref 413, .int (nI fr), .int (nI act), .int x] v (fun r z => r = some (.int (kSp K (g (1128 + 5 * e + 3)) (nI e) f fr act x s).1) ∧ kVM u K e (kSp K (g (1128 + 5 * e + 3)) (nI e) f fr act x s).2 z)) (x : Int32) {v : KMem} {s : kVS} (hs : kVM u K e s v) (hp0 : s.2.2 = 0) (hfu : (kSub K 30).all (fun q => kFu K f q.1 q.2) = true) : KC w l mX12_body (3 * f + 4) 0 0 [.ref 413, .int 2, .int 0, .int x] v (fun r z => r = some (.int (kWk (kSp K (g (1128 + 5 * e + 3)) (nI e) f) K (g (1128 + 5 * e + 3)) (nI e) 30 x (kTr s 30)).1) ∧ kVM u K e (kWk (kSp K (g (1128 + 5 * e + 3)) (nI e) f) K (g (1128 + 5 * e + 3)) (nI e) 30 x (kTr s 30)).2 z) := by
  have hv := hs.1.wd hu
  have egv : v.2.1 414 = g := (hs.1.row kSN_now).trans eg
  refine KC.of (ls := [_, _, _, _, _, _]) rfl rfl (Nat.le_of_ble_eq_true rfl) ?_
  have hf : (kFu K f 1 0 && true) = true := hfu
  simp only [Bool.and_true, Bool.and_eq_true] at hf
  refine kv_aload_n dX12_body_0 rfl ?_
  refine kv_aload_n dX12_body_1 rfl ?_
  refine kw_gI dX12_body_2 fX12_380 hv (by first | rfl | assumption) rfl rfl ?_
  rw [hs.2.2.2.2.2.2.1]
  refine kv_iconst dX12_body_5 3 ki_3 ?_
  refine kw_Vi [_, _] mX12_line dX12_body_6 lX12_292 wX12_line kC12 hv rfl (by first | rfl | assumption) rfl rfl rfl (gX12_line hv egv e 3 (by omega) (by omega)) (by omega) ?_
  refine kv_istore (ls2 := [_, _, _, _, _, _]) dX12_body_9 rfl rfl rfl rfl ?_
  refine kv_iconst dX12_body_11 4 ki_4 ?_
  refine kv_iload_n dX12_body_12 rfl ?_
  refine kv_imul dX12_body_13 ?_
  rw [show ((4 : Int32) * 2) = 8 from rfl]
  refine kv_iload_n dX12_body_14 rfl ?_
  refine kv_iadd dX12_body_15 ?_
  rw [show ((8 : Int32) + 0) = 8 from rfl]
  refine kv_tableIn dX12_body_16 238 (by decide) (by decide) rfl (by decide) ?_
  refine kv_aload_n dX12_body_238 rfl ?_
  refine kv_bipush dX12_body_239 30 kb_30 ?_
  refine kw_VQ [_] mX12_began dX12_body_241 lX12_383 wX12_began kC12 hv rfl (by first | rfl | assumption) rfl rfl rfl (qX12_began hu hs 30) (by omega) (fun _ v0 q0 => ?_)
  obtain ⟨rfl, hs0⟩ := q0
  have hv0 := hs0.1.wd hu
  refine kv_aload_n dX12_body_244 rfl ?_
  refine kv_iconst dX12_body_245 1 ki_1 ?_
  refine kv_iconst dX12_body_246 0 ki_0 ?_
  refine kv_iload_n dX12_body_247 rfl ?_
  refine kw_VQ [_, _, _] mX12_bodyFrom dX12_body_248 lX12_368 wX12_bodyFrom kC12 hv0 rfl (by first | rfl | assumption) rfl rfl rfl (hI 1 0 _ _ _ (by omega) (by omega) hf hs0) (by omega) (fun _ v1 q1 => ?_)
  obtain ⟨rfl, hs1⟩ := q1
  have hv1 := hs1.1.wd hu
  refine kv_iconst dX12_body_251 3 ki_3 ?_
  refine kv_imul dX12_body_252 ?_
  exact kv_iret dX12_body_253 rfl ⟨rfl, hs1⟩

set_option maxRecDepth 20000 in
set_option maxHeartbeats 4000000 in
theorem qX12_body_31 {w : KW} {l : Launch} {u : KMem} (hu : kWd u) {g : Nat → Int32} (eg : u.2.1 414 = g) {K e : Nat} (hK : K < 5) (he : e < 40) {f : Nat} (hI : ∀ (fr act : Nat) (x : Int32) (v : KMem) (s : kVS), fr < 5 → act < 4 → kFu K f fr act = true → kVM u K e s v → KC w l mX12_bodyFrom (3 * f + 2) 0 0 [.ref 413, .int (nI fr), .int (nI act), .int x] v (fun r z => r = some (.int (kSp K (g (1128 + 5 * e + 3)) (nI e) f fr act x s).1) ∧ kVM u K e (kSp K (g (1128 + 5 * e + 3)) (nI e) f fr act x s).2 z)) (x : Int32) {v : KMem} {s : kVS} (hs : kVM u K e s v) (hp0 : s.2.2 = 0) (hfu : (kSub K 31).all (fun q => kFu K f q.1 q.2) = true) : KC w l mX12_body (3 * f + 4) 0 0 [.ref 413, .int 2, .int 2, .int x] v (fun r z => r = some (.int (kWk (kSp K (g (1128 + 5 * e + 3)) (nI e) f) K (g (1128 + 5 * e + 3)) (nI e) 31 x (kTr s 31)).1) ∧ kVM u K e (kWk (kSp K (g (1128 + 5 * e + 3)) (nI e) f) K (g (1128 + 5 * e + 3)) (nI e) 31 x (kTr s 31)).2 z) := by
  have hv := hs.1.wd hu
  have egv : v.2.1 414 = g := (hs.1.row kSN_now).trans eg
  refine KC.of (ls := [_, _, _, _, _, _]) rfl rfl (Nat.le_of_ble_eq_true rfl) ?_
  have hf : (kFu K f 1 2 && true) = true := hfu
  simp only [Bool.and_true, Bool.and_eq_true] at hf
  refine kv_aload_n dX12_body_0 rfl ?_
  refine kv_aload_n dX12_body_1 rfl ?_
  refine kw_gI dX12_body_2 fX12_380 hv (by first | rfl | assumption) rfl rfl ?_
  rw [hs.2.2.2.2.2.2.1]
  refine kv_iconst dX12_body_5 3 ki_3 ?_
  refine kw_Vi [_, _] mX12_line dX12_body_6 lX12_292 wX12_line kC12 hv rfl (by first | rfl | assumption) rfl rfl rfl (gX12_line hv egv e 3 (by omega) (by omega)) (by omega) ?_
  refine kv_istore (ls2 := [_, _, _, _, _, _]) dX12_body_9 rfl rfl rfl rfl ?_
  refine kv_iconst dX12_body_11 4 ki_4 ?_
  refine kv_iload_n dX12_body_12 rfl ?_
  refine kv_imul dX12_body_13 ?_
  rw [show ((4 : Int32) * 2) = 8 from rfl]
  refine kv_iload_n dX12_body_14 rfl ?_
  refine kv_iadd dX12_body_15 ?_
  rw [show ((8 : Int32) + 2) = 10 from rfl]
  refine kv_tableIn dX12_body_16 254 (by decide) (by decide) rfl (by decide) ?_
  refine kv_aload_n dX12_body_254 rfl ?_
  refine kv_bipush dX12_body_255 31 kb_31 ?_
  refine kw_VQ [_] mX12_began dX12_body_257 lX12_383 wX12_began kC12 hv rfl (by first | rfl | assumption) rfl rfl rfl (qX12_began hu hs 31) (by omega) (fun _ v0 q0 => ?_)
  obtain ⟨rfl, hs0⟩ := q0
  have hv0 := hs0.1.wd hu
  refine kv_aload_n dX12_body_260 rfl ?_
  refine kv_iconst dX12_body_261 1 ki_1 ?_
  refine kv_iconst dX12_body_262 2 ki_2 ?_
  refine kv_iload_n dX12_body_263 rfl ?_
  refine kw_VQ [_, _, _] mX12_bodyFrom dX12_body_264 lX12_368 wX12_bodyFrom kC12 hv0 rfl (by first | rfl | assumption) rfl rfl rfl (hI 1 2 _ _ _ (by omega) (by omega) hf hs0) (by omega) (fun _ v1 q1 => ?_)
  obtain ⟨rfl, hs1⟩ := q1
  have hv1 := hs1.1.wd hu
  refine kv_iload dX12_body_267 rfl ?_
  refine kv_ixor dX12_body_269 ?_
  exact kv_iret dX12_body_270 rfl ⟨rfl, hs1⟩

set_option maxRecDepth 20000 in
set_option maxHeartbeats 4000000 in
theorem qX12_body_40 {w : KW} {l : Launch} {u : KMem} (hu : kWd u) {g : Nat → Int32} (eg : u.2.1 414 = g) {K e : Nat} (hK : K < 5) (he : e < 40) {f : Nat} (hI : ∀ (fr act : Nat) (x : Int32) (v : KMem) (s : kVS), fr < 5 → act < 4 → kFu K f fr act = true → kVM u K e s v → KC w l mX12_bodyFrom (3 * f + 2) 0 0 [.ref 413, .int (nI fr), .int (nI act), .int x] v (fun r z => r = some (.int (kSp K (g (1128 + 5 * e + 3)) (nI e) f fr act x s).1) ∧ kVM u K e (kSp K (g (1128 + 5 * e + 3)) (nI e) f fr act x s).2 z)) (x : Int32) {v : KMem} {s : kVS} (hs : kVM u K e s v) (hp0 : s.2.2 = 0) (hfu : (kSub K 40).all (fun q => kFu K f q.1 q.2) = true) : KC w l mX12_body (3 * f + 4) 0 0 [.ref 413, .int 3, .int 0, .int x] v (fun r z => r = some (.int (kWk (kSp K (g (1128 + 5 * e + 3)) (nI e) f) K (g (1128 + 5 * e + 3)) (nI e) 40 x (kTr s 40)).1) ∧ kVM u K e (kWk (kSp K (g (1128 + 5 * e + 3)) (nI e) f) K (g (1128 + 5 * e + 3)) (nI e) 40 x (kTr s 40)).2 z) := by
  have hv := hs.1.wd hu
  have egv : v.2.1 414 = g := (hs.1.row kSN_now).trans eg
  refine KC.of (ls := [_, _, _, _, _, _]) rfl rfl (Nat.le_of_ble_eq_true rfl) ?_
  have hf : (kFu K f 0 0 && true) = true := hfu
  simp only [Bool.and_true, Bool.and_eq_true] at hf
  refine kv_aload_n dX12_body_0 rfl ?_
  refine kv_aload_n dX12_body_1 rfl ?_
  refine kw_gI dX12_body_2 fX12_380 hv (by first | rfl | assumption) rfl rfl ?_
  rw [hs.2.2.2.2.2.2.1]
  refine kv_iconst dX12_body_5 3 ki_3 ?_
  refine kw_Vi [_, _] mX12_line dX12_body_6 lX12_292 wX12_line kC12 hv rfl (by first | rfl | assumption) rfl rfl rfl (gX12_line hv egv e 3 (by omega) (by omega)) (by omega) ?_
  refine kv_istore (ls2 := [_, _, _, _, _, _]) dX12_body_9 rfl rfl rfl rfl ?_
  refine kv_iconst dX12_body_11 4 ki_4 ?_
  refine kv_iload_n dX12_body_12 rfl ?_
  refine kv_imul dX12_body_13 ?_
  rw [show ((4 : Int32) * 3) = 12 from rfl]
  refine kv_iload_n dX12_body_14 rfl ?_
  refine kv_iadd dX12_body_15 ?_
  rw [show ((12 : Int32) + 0) = 12 from rfl]
  refine kv_tableIn dX12_body_16 271 (by decide) (by decide) rfl (by decide) ?_
  refine kv_aload_n dX12_body_271 rfl ?_
  refine kv_bipush dX12_body_272 40 kb_40 ?_
  refine kw_VQ [_] mX12_began dX12_body_274 lX12_383 wX12_began kC12 hv rfl (by first | rfl | assumption) rfl rfl rfl (qX12_began hu hs 40) (by omega) (fun _ v0 q0 => ?_)
  obtain ⟨rfl, hs0⟩ := q0
  have hv0 := hs0.1.wd hu
  refine kv_aload_n dX12_body_277 rfl ?_
  refine kv_iconst dX12_body_278 0 ki_0 ?_
  refine kv_iconst dX12_body_279 0 ki_0 ?_
  refine kv_iload_n dX12_body_280 rfl ?_
  refine kw_VQ [_, _, _] mX12_bodyFrom dX12_body_281 lX12_368 wX12_bodyFrom kC12 hv0 rfl (by first | rfl | assumption) rfl rfl rfl (hI 0 0 _ _ _ (by omega) (by omega) hf hs0) (by omega) (fun _ v1 q1 => ?_)
  obtain ⟨rfl, hs1⟩ := q1
  have hv1 := hs1.1.wd hu
  refine kv_ineg dX12_body_284 ?_
  exact kv_iret dX12_body_285 rfl ⟨congrArg (fun z => some (Value.int z)) (Int32.zero_sub _).symm, hs1⟩

set_option maxRecDepth 20000 in
set_option maxHeartbeats 4000000 in
theorem qX12_body_41 {w : KW} {l : Launch} {u : KMem} (hu : kWd u) {g : Nat → Int32} (eg : u.2.1 414 = g) {K e : Nat} (hK : K < 5) (he : e < 40) {f : Nat} (hI : ∀ (fr act : Nat) (x : Int32) (v : KMem) (s : kVS), fr < 5 → act < 4 → kFu K f fr act = true → kVM u K e s v → KC w l mX12_bodyFrom (3 * f + 2) 0 0 [.ref 413, .int (nI fr), .int (nI act), .int x] v (fun r z => r = some (.int (kSp K (g (1128 + 5 * e + 3)) (nI e) f fr act x s).1) ∧ kVM u K e (kSp K (g (1128 + 5 * e + 3)) (nI e) f fr act x s).2 z)) (x : Int32) {v : KMem} {s : kVS} (hs : kVM u K e s v) (hp0 : s.2.2 = 0) (hfu : (kSub K 41).all (fun q => kFu K f q.1 q.2) = true) : KC w l mX12_body (3 * f + 4) 0 0 [.ref 413, .int 3, .int 2, .int x] v (fun r z => r = some (.int (kWk (kSp K (g (1128 + 5 * e + 3)) (nI e) f) K (g (1128 + 5 * e + 3)) (nI e) 41 x (kTr s 41)).1) ∧ kVM u K e (kWk (kSp K (g (1128 + 5 * e + 3)) (nI e) f) K (g (1128 + 5 * e + 3)) (nI e) 41 x (kTr s 41)).2 z) := by
  have hv := hs.1.wd hu
  have egv : v.2.1 414 = g := (hs.1.row kSN_now).trans eg
  refine KC.of (ls := [_, _, _, _, _, _]) rfl rfl (Nat.le_of_ble_eq_true rfl) ?_
  have hf : (kFu K f 0 2 && true) = true := hfu
  simp only [Bool.and_true, Bool.and_eq_true] at hf
  refine kv_aload_n dX12_body_0 rfl ?_
  refine kv_aload_n dX12_body_1 rfl ?_
  refine kw_gI dX12_body_2 fX12_380 hv (by first | rfl | assumption) rfl rfl ?_
  rw [hs.2.2.2.2.2.2.1]
  refine kv_iconst dX12_body_5 3 ki_3 ?_
  refine kw_Vi [_, _] mX12_line dX12_body_6 lX12_292 wX12_line kC12 hv rfl (by first | rfl | assumption) rfl rfl rfl (gX12_line hv egv e 3 (by omega) (by omega)) (by omega) ?_
  refine kv_istore (ls2 := [_, _, _, _, _, _]) dX12_body_9 rfl rfl rfl rfl ?_
  refine kv_iconst dX12_body_11 4 ki_4 ?_
  refine kv_iload_n dX12_body_12 rfl ?_
  refine kv_imul dX12_body_13 ?_
  rw [show ((4 : Int32) * 3) = 12 from rfl]
  refine kv_iload_n dX12_body_14 rfl ?_
  refine kv_iadd dX12_body_15 ?_
  rw [show ((12 : Int32) + 2) = 14 from rfl]
  refine kv_tableIn dX12_body_16 286 (by decide) (by decide) rfl (by decide) ?_
  refine kv_aload_n dX12_body_286 rfl ?_
  refine kv_bipush dX12_body_287 41 kb_41 ?_
  refine kw_VQ [_] mX12_began dX12_body_289 lX12_383 wX12_began kC12 hv rfl (by first | rfl | assumption) rfl rfl rfl (qX12_began hu hs 41) (by omega) (fun _ v0 q0 => ?_)
  obtain ⟨rfl, hs0⟩ := q0
  have hv0 := hs0.1.wd hu
  refine kv_aload_n dX12_body_292 rfl ?_
  refine kv_iconst dX12_body_293 0 ki_0 ?_
  refine kv_iconst dX12_body_294 2 ki_2 ?_
  refine kv_iload_n dX12_body_295 rfl ?_
  refine kv_aload_n dX12_body_296 rfl ?_
  refine kw_gI dX12_body_297 fX12_380 hv0 (by first | rfl | assumption) rfl rfl ?_
  rw [hs0.2.2.2.2.2.2.1]
  refine kv_iadd dX12_body_300 ?_
  refine kw_VQ [_, _, _] mX12_bodyFrom dX12_body_301 lX12_368 wX12_bodyFrom kC12 hv0 rfl (by first | rfl | assumption) rfl rfl rfl (hI 0 2 _ _ _ (by omega) (by omega) hf hs0) (by omega) (fun _ v1 q1 => ?_)
  obtain ⟨rfl, hs1⟩ := q1
  have hv1 := hs1.1.wd hu
  exact kv_iret dX12_body_304 rfl ⟨rfl, hs1⟩

set_option maxRecDepth 20000 in
set_option maxHeartbeats 4000000 in
theorem qX12_body_50 {w : KW} {l : Launch} {u : KMem} (hu : kWd u) {g : Nat → Int32} (eg : u.2.1 414 = g) {K e : Nat} (hK : K < 5) (he : e < 40) {f : Nat} (hI : ∀ (fr act : Nat) (x : Int32) (v : KMem) (s : kVS), fr < 5 → act < 4 → kFu K f fr act = true → kVM u K e s v → KC w l mX12_bodyFrom (3 * f + 2) 0 0 [.ref 413, .int (nI fr), .int (nI act), .int x] v (fun r z => r = some (.int (kSp K (g (1128 + 5 * e + 3)) (nI e) f fr act x s).1) ∧ kVM u K e (kSp K (g (1128 + 5 * e + 3)) (nI e) f fr act x s).2 z)) (x : Int32) {v : KMem} {s : kVS} (hs : kVM u K e s v) (hp0 : s.2.2 = 0) (hfu : (kSub K 50).all (fun q => kFu K f q.1 q.2) = true) : KC w l mX12_body (3 * f + 4) 0 0 [.ref 413, .int 4, .int 1, .int x] v (fun r z => r = some (.int (kWk (kSp K (g (1128 + 5 * e + 3)) (nI e) f) K (g (1128 + 5 * e + 3)) (nI e) 50 x (kTr s 50)).1) ∧ kVM u K e (kWk (kSp K (g (1128 + 5 * e + 3)) (nI e) f) K (g (1128 + 5 * e + 3)) (nI e) 50 x (kTr s 50)).2 z) := by
  have hv := hs.1.wd hu
  have egv : v.2.1 414 = g := (hs.1.row kSN_now).trans eg
  refine KC.of (ls := [_, _, _, _, _, _]) rfl rfl (Nat.le_of_ble_eq_true rfl) ?_
  have hf : (kFu K f 3 1 && true) = true := hfu
  simp only [Bool.and_true, Bool.and_eq_true] at hf
  refine kv_aload_n dX12_body_0 rfl ?_
  refine kv_aload_n dX12_body_1 rfl ?_
  refine kw_gI dX12_body_2 fX12_380 hv (by first | rfl | assumption) rfl rfl ?_
  rw [hs.2.2.2.2.2.2.1]
  refine kv_iconst dX12_body_5 3 ki_3 ?_
  refine kw_Vi [_, _] mX12_line dX12_body_6 lX12_292 wX12_line kC12 hv rfl (by first | rfl | assumption) rfl rfl rfl (gX12_line hv egv e 3 (by omega) (by omega)) (by omega) ?_
  refine kv_istore (ls2 := [_, _, _, _, _, _]) dX12_body_9 rfl rfl rfl rfl ?_
  refine kv_iconst dX12_body_11 4 ki_4 ?_
  refine kv_iload_n dX12_body_12 rfl ?_
  refine kv_imul dX12_body_13 ?_
  rw [show ((4 : Int32) * 4) = 16 from rfl]
  refine kv_iload_n dX12_body_14 rfl ?_
  refine kv_iadd dX12_body_15 ?_
  rw [show ((16 : Int32) + 1) = 17 from rfl]
  refine kv_tableIn dX12_body_16 305 (by decide) (by decide) rfl (by decide) ?_
  refine kv_aload_n dX12_body_305 rfl ?_
  refine kv_bipush dX12_body_306 50 kb_50 ?_
  refine kw_VQ [_] mX12_began dX12_body_308 lX12_383 wX12_began kC12 hv rfl (by first | rfl | assumption) rfl rfl rfl (qX12_began hu hs 50) (by omega) (fun _ v0 q0 => ?_)
  obtain ⟨rfl, hs0⟩ := q0
  have hv0 := hs0.1.wd hu
  refine kv_aload_n dX12_body_311 rfl ?_
  refine kv_iconst dX12_body_312 3 ki_3 ?_
  refine kv_iconst dX12_body_313 1 ki_1 ?_
  refine kv_iload_n dX12_body_314 rfl ?_
  refine kw_VQ [_, _, _] mX12_bodyFrom dX12_body_315 lX12_368 wX12_bodyFrom kC12 hv0 rfl (by first | rfl | assumption) rfl rfl rfl (hI 3 1 _ _ _ (by omega) (by omega) hf hs0) (by omega) (fun _ v1 q1 => ?_)
  obtain ⟨rfl, hs1⟩ := q1
  have hv1 := hs1.1.wd hu
  refine kv_iconst dX12_body_318 2 ki_2 ?_
  refine kv_idiv dX12_body_319 (by decide) ?_
  exact kv_iret dX12_body_320 rfl ⟨rfl, hs1⟩

set_option maxRecDepth 20000 in
set_option maxHeartbeats 4000000 in
theorem qX12_body_51 {w : KW} {l : Launch} {u : KMem} (hu : kWd u) {g : Nat → Int32} (eg : u.2.1 414 = g) {K e : Nat} (hK : K < 5) (he : e < 40) {f : Nat} (hI : ∀ (fr act : Nat) (x : Int32) (v : KMem) (s : kVS), fr < 5 → act < 4 → kFu K f fr act = true → kVM u K e s v → KC w l mX12_bodyFrom (3 * f + 2) 0 0 [.ref 413, .int (nI fr), .int (nI act), .int x] v (fun r z => r = some (.int (kSp K (g (1128 + 5 * e + 3)) (nI e) f fr act x s).1) ∧ kVM u K e (kSp K (g (1128 + 5 * e + 3)) (nI e) f fr act x s).2 z)) (x : Int32) {v : KMem} {s : kVS} (hs : kVM u K e s v) (hp0 : s.2.2 = 0) (hfu : (kSub K 51).all (fun q => kFu K f q.1 q.2) = true) : KC w l mX12_body (3 * f + 4) 0 0 [.ref 413, .int 4, .int 2, .int x] v (fun r z => r = some (.int (kWk (kSp K (g (1128 + 5 * e + 3)) (nI e) f) K (g (1128 + 5 * e + 3)) (nI e) 51 x (kTr s 51)).1) ∧ kVM u K e (kWk (kSp K (g (1128 + 5 * e + 3)) (nI e) f) K (g (1128 + 5 * e + 3)) (nI e) 51 x (kTr s 51)).2 z) := by
  have hv := hs.1.wd hu
  have egv : v.2.1 414 = g := (hs.1.row kSN_now).trans eg
  refine KC.of (ls := [_, _, _, _, _, _]) rfl rfl (Nat.le_of_ble_eq_true rfl) ?_
  have hf : (kFu K f 3 2 && (kFu K f K 0 && true)) = true := hfu
  simp only [Bool.and_true, Bool.and_eq_true] at hf
  refine kv_aload_n dX12_body_0 rfl ?_
  refine kv_aload_n dX12_body_1 rfl ?_
  refine kw_gI dX12_body_2 fX12_380 hv (by first | rfl | assumption) rfl rfl ?_
  rw [hs.2.2.2.2.2.2.1]
  refine kv_iconst dX12_body_5 3 ki_3 ?_
  refine kw_Vi [_, _] mX12_line dX12_body_6 lX12_292 wX12_line kC12 hv rfl (by first | rfl | assumption) rfl rfl rfl (gX12_line hv egv e 3 (by omega) (by omega)) (by omega) ?_
  refine kv_istore (ls2 := [_, _, _, _, _, _]) dX12_body_9 rfl rfl rfl rfl ?_
  refine kv_iconst dX12_body_11 4 ki_4 ?_
  refine kv_iload_n dX12_body_12 rfl ?_
  refine kv_imul dX12_body_13 ?_
  rw [show ((4 : Int32) * 4) = 16 from rfl]
  refine kv_iload_n dX12_body_14 rfl ?_
  refine kv_iadd dX12_body_15 ?_
  rw [show ((16 : Int32) + 2) = 18 from rfl]
  refine kv_tableIn dX12_body_16 321 (by decide) (by decide) rfl (by decide) ?_
  refine kv_aload_n dX12_body_321 rfl ?_
  refine kv_bipush dX12_body_322 51 kb_51 ?_
  refine kw_VQ [_] mX12_began dX12_body_324 lX12_383 wX12_began kC12 hv rfl (by first | rfl | assumption) rfl rfl rfl (qX12_began hu hs 51) (by omega) (fun _ v0 q0 => ?_)
  obtain ⟨rfl, hs0⟩ := q0
  have hv0 := hs0.1.wd hu
  refine kv_aload_n dX12_body_327 rfl ?_
  refine kv_iconst dX12_body_328 3 ki_3 ?_
  refine kv_iconst dX12_body_329 2 ki_2 ?_
  refine kv_iload_n dX12_body_330 rfl ?_
  refine kw_VQ [_, _, _] mX12_bodyFrom dX12_body_331 lX12_368 wX12_bodyFrom kC12 hv0 rfl (by first | rfl | assumption) rfl rfl rfl (hI 3 2 _ _ _ (by omega) (by omega) hf.1 hs0) (by omega) (fun _ v1 q1 => ?_)
  obtain ⟨rfl, hs1⟩ := q1
  have hv1 := hs1.1.wd hu
  refine kv_istore (ls2 := [_, _, _, _, _, _]) dX12_body_334 rfl rfl rfl rfl ?_
  refine kv_iload dX12_body_336 rfl ?_
  refine kv_aload_n dX12_body_338 rfl ?_
  refine kv_iconst dX12_body_339 0 ki_0 ?_
  refine kv_iconst dX12_body_340 2 ki_2 ?_
  refine kw_VQ [_, _] mX12_voiced dX12_body_341 lX12_386 wX12_voiced kC12 hv1 rfl (by first | rfl | assumption) rfl rfl rfl (qX12_voiced hu eg hK he hI 0 _ (by omega) hf.2 hs1) (by omega) (fun _ v2 q2 => ?_)
  obtain ⟨rfl, hs2⟩ := q2
  have hv2 := hs2.1.wd hu
  refine kv_isub dX12_body_344 ?_
  exact kv_iret dX12_body_345 rfl ⟨rfl, hs2⟩

set_option maxRecDepth 20000 in
set_option maxHeartbeats 4000000 in
theorem qX12_body_52 {w : KW} {l : Launch} {u : KMem} (hu : kWd u) {g : Nat → Int32} (eg : u.2.1 414 = g) {K e : Nat} (hK : K < 5) (he : e < 40) {f : Nat} (hI : ∀ (fr act : Nat) (x : Int32) (v : KMem) (s : kVS), fr < 5 → act < 4 → kFu K f fr act = true → kVM u K e s v → KC w l mX12_bodyFrom (3 * f + 2) 0 0 [.ref 413, .int (nI fr), .int (nI act), .int x] v (fun r z => r = some (.int (kSp K (g (1128 + 5 * e + 3)) (nI e) f fr act x s).1) ∧ kVM u K e (kSp K (g (1128 + 5 * e + 3)) (nI e) f fr act x s).2 z)) (x : Int32) {v : KMem} {s : kVS} (hs : kVM u K e s v) (hp0 : s.2.2 = 0) (hfu : (kSub K 52).all (fun q => kFu K f q.1 q.2) = true) : KC w l mX12_body (3 * f + 4) 0 0 [.ref 413, .int 4, .int 3, .int x] v (fun r z => r = some (.int (kWk (kSp K (g (1128 + 5 * e + 3)) (nI e) f) K (g (1128 + 5 * e + 3)) (nI e) 52 x (kTr s 52)).1) ∧ kVM u K e (kWk (kSp K (g (1128 + 5 * e + 3)) (nI e) f) K (g (1128 + 5 * e + 3)) (nI e) 52 x (kTr s 52)).2 z) := by
  have hv := hs.1.wd hu
  have egv : v.2.1 414 = g := (hs.1.row kSN_now).trans eg
  refine KC.of (ls := [_, _, _, _, _, _]) rfl rfl (Nat.le_of_ble_eq_true rfl) ?_
  have hf : (kFu K f K 0 && (kFu K f 3 3 && true)) = true := hfu
  simp only [Bool.and_true, Bool.and_eq_true] at hf
  refine kv_aload_n dX12_body_0 rfl ?_
  refine kv_aload_n dX12_body_1 rfl ?_
  refine kw_gI dX12_body_2 fX12_380 hv (by first | rfl | assumption) rfl rfl ?_
  rw [hs.2.2.2.2.2.2.1]
  refine kv_iconst dX12_body_5 3 ki_3 ?_
  refine kw_Vi [_, _] mX12_line dX12_body_6 lX12_292 wX12_line kC12 hv rfl (by first | rfl | assumption) rfl rfl rfl (gX12_line hv egv e 3 (by omega) (by omega)) (by omega) ?_
  refine kv_istore (ls2 := [_, _, _, _, _, _]) dX12_body_9 rfl rfl rfl rfl ?_
  refine kv_iconst dX12_body_11 4 ki_4 ?_
  refine kv_iload_n dX12_body_12 rfl ?_
  refine kv_imul dX12_body_13 ?_
  rw [show ((4 : Int32) * 4) = 16 from rfl]
  refine kv_iload_n dX12_body_14 rfl ?_
  refine kv_iadd dX12_body_15 ?_
  rw [show ((16 : Int32) + 3) = 19 from rfl]
  refine kv_tableOut dX12_body_16 346 (by decide) (by decide) ?_
  refine kv_aload_n dX12_body_346 rfl ?_
  refine kv_bipush dX12_body_347 52 kb_52 ?_
  refine kw_VQ [_] mX12_began dX12_body_349 lX12_383 wX12_began kC12 hv rfl (by first | rfl | assumption) rfl rfl rfl (qX12_began hu hs 52) (by omega) (fun _ v0 q0 => ?_)
  obtain ⟨rfl, hs0⟩ := q0
  have hv0 := hs0.1.wd hu
  refine kv_aload_n dX12_body_352 rfl ?_
  refine kv_iconst dX12_body_353 0 ki_0 ?_
  refine kv_iload_n dX12_body_354 rfl ?_
  refine kw_VQ [_, _] mX12_voiced dX12_body_355 lX12_386 wX12_voiced kC12 hv0 rfl (by first | rfl | assumption) rfl rfl rfl (qX12_voiced hu eg hK he hI 0 _ (by omega) hf.1 hs0) (by omega) (fun _ v1 q1 => ?_)
  obtain ⟨rfl, hs1⟩ := q1
  have hv1 := hs1.1.wd hu
  refine kv_istore (ls2 := [_, _, _, _, _, _]) dX12_body_358 rfl rfl rfl rfl ?_
  refine kv_iload dX12_body_360 rfl ?_
  refine kv_aload_n dX12_body_362 rfl ?_
  refine kv_iconst dX12_body_363 3 ki_3 ?_
  refine kv_iconst dX12_body_364 3 ki_3 ?_
  refine kv_iload_n dX12_body_365 rfl ?_
  refine kw_VQ [_, _, _] mX12_bodyFrom dX12_body_366 lX12_368 wX12_bodyFrom kC12 hv1 rfl (by first | rfl | assumption) rfl rfl rfl (hI 3 3 _ _ _ (by omega) (by omega) hf.2 hs1) (by omega) (fun _ v2 q2 => ?_)
  obtain ⟨rfl, hs2⟩ := q2
  have hv2 := hs2.1.wd hu
  refine kv_isub dX12_body_369 ?_
  exact kv_iret dX12_body_370 rfl ⟨rfl, hs2⟩

set_option maxRecDepth 20000 in
set_option maxHeartbeats 4000000 in
theorem qX12_bodyFrom_0_0 {w : KW} {l : Launch} {u : KMem} (hu : kWd u) {g : Nat → Int32} (eg : u.2.1 414 = g) {K e : Nat} (hK : K < 5) (he : e < 40) {f : Nat} (hI : ∀ (fr act : Nat) (x : Int32) (v : KMem) (s : kVS), fr < 5 → act < 4 → kFu K f fr act = true → kVM u K e s v → KC w l mX12_bodyFrom (3 * f + 2) 0 0 [.ref 413, .int (nI fr), .int (nI act), .int x] v (fun r z => r = some (.int (kSp K (g (1128 + 5 * e + 3)) (nI e) f fr act x s).1) ∧ kVM u K e (kSp K (g (1128 + 5 * e + 3)) (nI e) f fr act x s).2 z)) (x : Int32) {v : KMem} {s : kVS} (hs : kVM u K e s v) (hfu : kFu K (f + 1) 0 0 = true) : KC w l mX12_bodyFrom (3 * (f + 1) + 2) 0 0 [.ref 413, .int 0, .int 0, .int x] v (fun r z => r = some (.int (kSp K (g (1128 + 5 * e + 3)) (nI e) (f + 1) 0 0 x s).1) ∧ kVM u K e (kSp K (g (1128 + 5 * e + 3)) (nI e) (f + 1) 0 0 x s).2 z) := by
  have hv := hs.1.wd hu
  refine KC.of (ls := [_, _, _, _, _]) rfl rfl (Nat.le_of_ble_eq_true rfl) ?_
  refine kv_iload_n dX12_bodyFrom_0 rfl ?_
  refine kv_istore (ls2 := [_, _, _, _, _]) dX12_bodyFrom_1 rfl rfl rfl rfl ?_
  refine kv_iload dX12_bodyFrom_3 rfl ?_
  refine kv_iload_n dX12_bodyFrom_5 rfl ?_
  refine kw_Si [_, _] mX12_hasOwn dX12_bodyFrom_6 lX12_371 wX12_hasOwn rfl rfl rfl (qX12_hasOwn_0_0 hv) (by omega) ?_
  refine kv_if_ne dX12_bodyFrom_9 22 (by decide) (fun h1 => ?_) (fun h1 => ?_)
  · refine kv_aload_n dX12_bodyFrom_22 rfl ?_
    refine kw_gI dX12_bodyFrom_23 fX12_374 hv (by first | rfl | assumption) rfl rfl ?_
    rw [hs.2.2.2.2.1]
    refine kv_if_eq dX12_bodyFrom_26 33 (by decide) (fun h2 => ?_) (fun h2 => ?_)
    · have hp := h2
      refine kv_aload_n dX12_bodyFrom_33 rfl ?_
      refine kv_iload dX12_bodyFrom_34 rfl ?_
      refine kv_iload_n dX12_bodyFrom_36 rfl ?_
      refine kv_iload_n dX12_bodyFrom_37 rfl ?_
      refine kw_VQ [_, _, _] mX12_body dX12_bodyFrom_38 lX12_377 wX12_body kC12 hv rfl (by first | rfl | assumption) rfl rfl rfl (qX12_body_10 hu eg hK he hI x hs hp hfu) (by omega) (fun _ v1 q1 => ?_)
      obtain ⟨rfl, hs1⟩ := q1
      have hv1 := hs1.1.wd hu
      exact kv_iret dX12_bodyFrom_41 rfl (by first | exact ⟨by rw [kSp_y hp], by rw [kSp_y hp]; exact hs⟩ | exact ⟨by rw [kSp_n hp]; rfl, by rw [kSp_n hp]; exact hs1⟩)
    · have hp := h2
      refine kv_iconst dX12_bodyFrom_29 0 ki_0 ?_
      refine kv_goto dX12_bodyFrom_30 41 (by decide) ?_
      exact kv_iret dX12_bodyFrom_41 rfl (by first | exact ⟨by rw [kSp_y hp], by rw [kSp_y hp]; exact hs⟩ | exact ⟨by rw [kSp_n hp]; rfl, by rw [kSp_n hp]; exact hs1⟩)
  · exact absurd h1 (by decide)

set_option maxRecDepth 20000 in
set_option maxHeartbeats 4000000 in
theorem qX12_bodyFrom_0_1 {w : KW} {l : Launch} {u : KMem} (hu : kWd u) {g : Nat → Int32} (eg : u.2.1 414 = g) {K e : Nat} (hK : K < 5) (he : e < 40) {f : Nat} (hI : ∀ (fr act : Nat) (x : Int32) (v : KMem) (s : kVS), fr < 5 → act < 4 → kFu K f fr act = true → kVM u K e s v → KC w l mX12_bodyFrom (3 * f + 2) 0 0 [.ref 413, .int (nI fr), .int (nI act), .int x] v (fun r z => r = some (.int (kSp K (g (1128 + 5 * e + 3)) (nI e) f fr act x s).1) ∧ kVM u K e (kSp K (g (1128 + 5 * e + 3)) (nI e) f fr act x s).2 z)) (x : Int32) {v : KMem} {s : kVS} (hs : kVM u K e s v) (hfu : kFu K (f + 1) 0 1 = true) : KC w l mX12_bodyFrom (3 * (f + 1) + 2) 0 0 [.ref 413, .int 0, .int 1, .int x] v (fun r z => r = some (.int (kSp K (g (1128 + 5 * e + 3)) (nI e) (f + 1) 0 1 x s).1) ∧ kVM u K e (kSp K (g (1128 + 5 * e + 3)) (nI e) (f + 1) 0 1 x s).2 z) := by
  have hv := hs.1.wd hu
  refine KC.of (ls := [_, _, _, _, _]) rfl rfl (Nat.le_of_ble_eq_true rfl) ?_
  refine kv_iload_n dX12_bodyFrom_0 rfl ?_
  refine kv_istore (ls2 := [_, _, _, _, _]) dX12_bodyFrom_1 rfl rfl rfl rfl ?_
  refine kv_iload dX12_bodyFrom_3 rfl ?_
  refine kv_iload_n dX12_bodyFrom_5 rfl ?_
  refine kw_Si [_, _] mX12_hasOwn dX12_bodyFrom_6 lX12_371 wX12_hasOwn rfl rfl rfl (qX12_hasOwn_0_1 hv) (by omega) ?_
  refine kv_if_ne dX12_bodyFrom_9 22 (by decide) (fun h1 => ?_) (fun h1 => ?_)
  · refine kv_aload_n dX12_bodyFrom_22 rfl ?_
    refine kw_gI dX12_bodyFrom_23 fX12_374 hv (by first | rfl | assumption) rfl rfl ?_
    rw [hs.2.2.2.2.1]
    refine kv_if_eq dX12_bodyFrom_26 33 (by decide) (fun h2 => ?_) (fun h2 => ?_)
    · have hp := h2
      refine kv_aload_n dX12_bodyFrom_33 rfl ?_
      refine kv_iload dX12_bodyFrom_34 rfl ?_
      refine kv_iload_n dX12_bodyFrom_36 rfl ?_
      refine kv_iload_n dX12_bodyFrom_37 rfl ?_
      refine kw_VQ [_, _, _] mX12_body dX12_bodyFrom_38 lX12_377 wX12_body kC12 hv rfl (by first | rfl | assumption) rfl rfl rfl (qX12_body_11 hu eg hK he hI x hs hp hfu) (by omega) (fun _ v1 q1 => ?_)
      obtain ⟨rfl, hs1⟩ := q1
      have hv1 := hs1.1.wd hu
      exact kv_iret dX12_bodyFrom_41 rfl (by first | exact ⟨by rw [kSp_y hp], by rw [kSp_y hp]; exact hs⟩ | exact ⟨by rw [kSp_n hp]; rfl, by rw [kSp_n hp]; exact hs1⟩)
    · have hp := h2
      refine kv_iconst dX12_bodyFrom_29 0 ki_0 ?_
      refine kv_goto dX12_bodyFrom_30 41 (by decide) ?_
      exact kv_iret dX12_bodyFrom_41 rfl (by first | exact ⟨by rw [kSp_y hp], by rw [kSp_y hp]; exact hs⟩ | exact ⟨by rw [kSp_n hp]; rfl, by rw [kSp_n hp]; exact hs1⟩)
  · exact absurd h1 (by decide)

set_option maxRecDepth 20000 in
set_option maxHeartbeats 4000000 in
theorem qX12_bodyFrom_0_2 {w : KW} {l : Launch} {u : KMem} (hu : kWd u) {g : Nat → Int32} (eg : u.2.1 414 = g) {K e : Nat} (hK : K < 5) (he : e < 40) {f : Nat} (hI : ∀ (fr act : Nat) (x : Int32) (v : KMem) (s : kVS), fr < 5 → act < 4 → kFu K f fr act = true → kVM u K e s v → KC w l mX12_bodyFrom (3 * f + 2) 0 0 [.ref 413, .int (nI fr), .int (nI act), .int x] v (fun r z => r = some (.int (kSp K (g (1128 + 5 * e + 3)) (nI e) f fr act x s).1) ∧ kVM u K e (kSp K (g (1128 + 5 * e + 3)) (nI e) f fr act x s).2 z)) (x : Int32) {v : KMem} {s : kVS} (hs : kVM u K e s v) (hfu : kFu K (f + 1) 0 2 = true) : KC w l mX12_bodyFrom (3 * (f + 1) + 2) 0 0 [.ref 413, .int 0, .int 2, .int x] v (fun r z => r = some (.int (kSp K (g (1128 + 5 * e + 3)) (nI e) (f + 1) 0 2 x s).1) ∧ kVM u K e (kSp K (g (1128 + 5 * e + 3)) (nI e) (f + 1) 0 2 x s).2 z) := by
  have hv := hs.1.wd hu
  refine KC.of (ls := [_, _, _, _, _]) rfl rfl (Nat.le_of_ble_eq_true rfl) ?_
  refine kv_iload_n dX12_bodyFrom_0 rfl ?_
  refine kv_istore (ls2 := [_, _, _, _, _]) dX12_bodyFrom_1 rfl rfl rfl rfl ?_
  refine kv_iload dX12_bodyFrom_3 rfl ?_
  refine kv_iload_n dX12_bodyFrom_5 rfl ?_
  refine kw_Si [_, _] mX12_hasOwn dX12_bodyFrom_6 lX12_371 wX12_hasOwn rfl rfl rfl (qX12_hasOwn_0_2 hv) (by omega) ?_
  refine kv_if_ne dX12_bodyFrom_9 22 (by decide) (fun h1 => ?_) (fun h1 => ?_)
  · refine kv_aload_n dX12_bodyFrom_22 rfl ?_
    refine kw_gI dX12_bodyFrom_23 fX12_374 hv (by first | rfl | assumption) rfl rfl ?_
    rw [hs.2.2.2.2.1]
    refine kv_if_eq dX12_bodyFrom_26 33 (by decide) (fun h2 => ?_) (fun h2 => ?_)
    · have hp := h2
      refine kv_aload_n dX12_bodyFrom_33 rfl ?_
      refine kv_iload dX12_bodyFrom_34 rfl ?_
      refine kv_iload_n dX12_bodyFrom_36 rfl ?_
      refine kv_iload_n dX12_bodyFrom_37 rfl ?_
      refine kw_VQ [_, _, _] mX12_body dX12_bodyFrom_38 lX12_377 wX12_body kC12 hv rfl (by first | rfl | assumption) rfl rfl rfl (qX12_body_12 hu eg hK he hI x hs hp hfu) (by omega) (fun _ v1 q1 => ?_)
      obtain ⟨rfl, hs1⟩ := q1
      have hv1 := hs1.1.wd hu
      exact kv_iret dX12_bodyFrom_41 rfl (by first | exact ⟨by rw [kSp_y hp], by rw [kSp_y hp]; exact hs⟩ | exact ⟨by rw [kSp_n hp]; rfl, by rw [kSp_n hp]; exact hs1⟩)
    · have hp := h2
      refine kv_iconst dX12_bodyFrom_29 0 ki_0 ?_
      refine kv_goto dX12_bodyFrom_30 41 (by decide) ?_
      exact kv_iret dX12_bodyFrom_41 rfl (by first | exact ⟨by rw [kSp_y hp], by rw [kSp_y hp]; exact hs⟩ | exact ⟨by rw [kSp_n hp]; rfl, by rw [kSp_n hp]; exact hs1⟩)
  · exact absurd h1 (by decide)

set_option maxRecDepth 20000 in
set_option maxHeartbeats 4000000 in
theorem qX12_bodyFrom_0_3 {w : KW} {l : Launch} {u : KMem} (hu : kWd u) {g : Nat → Int32} (eg : u.2.1 414 = g) {K e : Nat} (hK : K < 5) (he : e < 40) {f : Nat} (hI : ∀ (fr act : Nat) (x : Int32) (v : KMem) (s : kVS), fr < 5 → act < 4 → kFu K f fr act = true → kVM u K e s v → KC w l mX12_bodyFrom (3 * f + 2) 0 0 [.ref 413, .int (nI fr), .int (nI act), .int x] v (fun r z => r = some (.int (kSp K (g (1128 + 5 * e + 3)) (nI e) f fr act x s).1) ∧ kVM u K e (kSp K (g (1128 + 5 * e + 3)) (nI e) f fr act x s).2 z)) (x : Int32) {v : KMem} {s : kVS} (hs : kVM u K e s v) (hfu : kFu K (f + 1) 0 3 = true) : KC w l mX12_bodyFrom (3 * (f + 1) + 2) 0 0 [.ref 413, .int 0, .int 3, .int x] v (fun r z => r = some (.int (kSp K (g (1128 + 5 * e + 3)) (nI e) (f + 1) 0 3 x s).1) ∧ kVM u K e (kSp K (g (1128 + 5 * e + 3)) (nI e) (f + 1) 0 3 x s).2 z) := by
  have hv := hs.1.wd hu
  refine KC.of (ls := [_, _, _, _, _]) rfl rfl (Nat.le_of_ble_eq_true rfl) ?_
  refine kv_iload_n dX12_bodyFrom_0 rfl ?_
  refine kv_istore (ls2 := [_, _, _, _, _]) dX12_bodyFrom_1 rfl rfl rfl rfl ?_
  refine kv_iload dX12_bodyFrom_3 rfl ?_
  refine kv_iload_n dX12_bodyFrom_5 rfl ?_
  refine kw_Si [_, _] mX12_hasOwn dX12_bodyFrom_6 lX12_371 wX12_hasOwn rfl rfl rfl (qX12_hasOwn_0_3 hv) (by omega) ?_
  refine kv_if_ne dX12_bodyFrom_9 22 (by decide) (fun h1 => ?_) (fun h1 => ?_)
  · refine kv_aload_n dX12_bodyFrom_22 rfl ?_
    refine kw_gI dX12_bodyFrom_23 fX12_374 hv (by first | rfl | assumption) rfl rfl ?_
    rw [hs.2.2.2.2.1]
    refine kv_if_eq dX12_bodyFrom_26 33 (by decide) (fun h2 => ?_) (fun h2 => ?_)
    · have hp := h2
      refine kv_aload_n dX12_bodyFrom_33 rfl ?_
      refine kv_iload dX12_bodyFrom_34 rfl ?_
      refine kv_iload_n dX12_bodyFrom_36 rfl ?_
      refine kv_iload_n dX12_bodyFrom_37 rfl ?_
      refine kw_VQ [_, _, _] mX12_body dX12_bodyFrom_38 lX12_377 wX12_body kC12 hv rfl (by first | rfl | assumption) rfl rfl rfl (qX12_body_13 hu eg hK he hI x hs hp hfu) (by omega) (fun _ v1 q1 => ?_)
      obtain ⟨rfl, hs1⟩ := q1
      have hv1 := hs1.1.wd hu
      exact kv_iret dX12_bodyFrom_41 rfl (by first | exact ⟨by rw [kSp_y hp], by rw [kSp_y hp]; exact hs⟩ | exact ⟨by rw [kSp_n hp]; rfl, by rw [kSp_n hp]; exact hs1⟩)
    · have hp := h2
      refine kv_iconst dX12_bodyFrom_29 0 ki_0 ?_
      refine kv_goto dX12_bodyFrom_30 41 (by decide) ?_
      exact kv_iret dX12_bodyFrom_41 rfl (by first | exact ⟨by rw [kSp_y hp], by rw [kSp_y hp]; exact hs⟩ | exact ⟨by rw [kSp_n hp]; rfl, by rw [kSp_n hp]; exact hs1⟩)
  · exact absurd h1 (by decide)

set_option maxRecDepth 20000 in
set_option maxHeartbeats 4000000 in
theorem qX12_bodyFrom_1_0 {w : KW} {l : Launch} {u : KMem} (hu : kWd u) {g : Nat → Int32} (eg : u.2.1 414 = g) {K e : Nat} (hK : K < 5) (he : e < 40) {f : Nat} (hI : ∀ (fr act : Nat) (x : Int32) (v : KMem) (s : kVS), fr < 5 → act < 4 → kFu K f fr act = true → kVM u K e s v → KC w l mX12_bodyFrom (3 * f + 2) 0 0 [.ref 413, .int (nI fr), .int (nI act), .int x] v (fun r z => r = some (.int (kSp K (g (1128 + 5 * e + 3)) (nI e) f fr act x s).1) ∧ kVM u K e (kSp K (g (1128 + 5 * e + 3)) (nI e) f fr act x s).2 z)) (x : Int32) {v : KMem} {s : kVS} (hs : kVM u K e s v) (hfu : kFu K (f + 1) 1 0 = true) : KC w l mX12_bodyFrom (3 * (f + 1) + 2) 0 0 [.ref 413, .int 1, .int 0, .int x] v (fun r z => r = some (.int (kSp K (g (1128 + 5 * e + 3)) (nI e) (f + 1) 1 0 x s).1) ∧ kVM u K e (kSp K (g (1128 + 5 * e + 3)) (nI e) (f + 1) 1 0 x s).2 z) := by
  have hv := hs.1.wd hu
  refine KC.of (ls := [_, _, _, _, _]) rfl rfl (Nat.le_of_ble_eq_true rfl) ?_
  refine kv_iload_n dX12_bodyFrom_0 rfl ?_
  refine kv_istore (ls2 := [_, _, _, _, _]) dX12_bodyFrom_1 rfl rfl rfl rfl ?_
  refine kv_iload dX12_bodyFrom_3 rfl ?_
  refine kv_iload_n dX12_bodyFrom_5 rfl ?_
  refine kw_Si [_, _] mX12_hasOwn dX12_bodyFrom_6 lX12_371 wX12_hasOwn rfl rfl rfl (qX12_hasOwn_1_0 hv) (by omega) ?_
  refine kv_if_ne dX12_bodyFrom_9 22 (by decide) (fun h1 => ?_) (fun h1 => ?_)
  · exact absurd h1 (by decide)
  · refine kv_iload dX12_bodyFrom_12 rfl ?_
    refine kw_Si [_] mX12_above dX12_bodyFrom_14 lX12_304 wX12_above rfl rfl rfl (qX12_above (by exact hv) _) (by omega) ?_
    rw [show kAbove 1 = 0 from rfl]
    refine kv_istore (ls2 := [_, _, _, _, _]) dX12_bodyFrom_17 rfl rfl rfl rfl ?_
    refine kv_goto dX12_bodyFrom_19 3 (by decide) ?_
    refine kv_iload dX12_bodyFrom_3 rfl ?_
    refine kv_iload_n dX12_bodyFrom_5 rfl ?_
    refine kw_Si [_, _] mX12_hasOwn dX12_bodyFrom_6 lX12_371 wX12_hasOwn rfl rfl rfl (qX12_hasOwn_0_0 hv) (by omega) ?_
    refine kv_if_ne dX12_bodyFrom_9 22 (by decide) (fun h2 => ?_) (fun h2 => ?_)
    · refine kv_aload_n dX12_bodyFrom_22 rfl ?_
      refine kw_gI dX12_bodyFrom_23 fX12_374 hv (by first | rfl | assumption) rfl rfl ?_
      rw [hs.2.2.2.2.1]
      refine kv_if_eq dX12_bodyFrom_26 33 (by decide) (fun h3 => ?_) (fun h3 => ?_)
      · have hp := h3
        refine kv_aload_n dX12_bodyFrom_33 rfl ?_
        refine kv_iload dX12_bodyFrom_34 rfl ?_
        refine kv_iload_n dX12_bodyFrom_36 rfl ?_
        refine kv_iload_n dX12_bodyFrom_37 rfl ?_
        refine kw_VQ [_, _, _] mX12_body dX12_bodyFrom_38 lX12_377 wX12_body kC12 hv rfl (by first | rfl | assumption) rfl rfl rfl (qX12_body_10 hu eg hK he hI x hs hp hfu) (by omega) (fun _ v1 q1 => ?_)
        obtain ⟨rfl, hs1⟩ := q1
        have hv1 := hs1.1.wd hu
        exact kv_iret dX12_bodyFrom_41 rfl (by first | exact ⟨by rw [kSp_y hp], by rw [kSp_y hp]; exact hs⟩ | exact ⟨by rw [kSp_n hp]; rfl, by rw [kSp_n hp]; exact hs1⟩)
      · have hp := h3
        refine kv_iconst dX12_bodyFrom_29 0 ki_0 ?_
        refine kv_goto dX12_bodyFrom_30 41 (by decide) ?_
        exact kv_iret dX12_bodyFrom_41 rfl (by first | exact ⟨by rw [kSp_y hp], by rw [kSp_y hp]; exact hs⟩ | exact ⟨by rw [kSp_n hp]; rfl, by rw [kSp_n hp]; exact hs1⟩)
    · exact absurd h2 (by decide)

set_option maxRecDepth 20000 in
set_option maxHeartbeats 4000000 in
theorem qX12_bodyFrom_1_1 {w : KW} {l : Launch} {u : KMem} (hu : kWd u) {g : Nat → Int32} (eg : u.2.1 414 = g) {K e : Nat} (hK : K < 5) (he : e < 40) {f : Nat} (hI : ∀ (fr act : Nat) (x : Int32) (v : KMem) (s : kVS), fr < 5 → act < 4 → kFu K f fr act = true → kVM u K e s v → KC w l mX12_bodyFrom (3 * f + 2) 0 0 [.ref 413, .int (nI fr), .int (nI act), .int x] v (fun r z => r = some (.int (kSp K (g (1128 + 5 * e + 3)) (nI e) f fr act x s).1) ∧ kVM u K e (kSp K (g (1128 + 5 * e + 3)) (nI e) f fr act x s).2 z)) (x : Int32) {v : KMem} {s : kVS} (hs : kVM u K e s v) (hfu : kFu K (f + 1) 1 1 = true) : KC w l mX12_bodyFrom (3 * (f + 1) + 2) 0 0 [.ref 413, .int 1, .int 1, .int x] v (fun r z => r = some (.int (kSp K (g (1128 + 5 * e + 3)) (nI e) (f + 1) 1 1 x s).1) ∧ kVM u K e (kSp K (g (1128 + 5 * e + 3)) (nI e) (f + 1) 1 1 x s).2 z) := by
  have hv := hs.1.wd hu
  refine KC.of (ls := [_, _, _, _, _]) rfl rfl (Nat.le_of_ble_eq_true rfl) ?_
  refine kv_iload_n dX12_bodyFrom_0 rfl ?_
  refine kv_istore (ls2 := [_, _, _, _, _]) dX12_bodyFrom_1 rfl rfl rfl rfl ?_
  refine kv_iload dX12_bodyFrom_3 rfl ?_
  refine kv_iload_n dX12_bodyFrom_5 rfl ?_
  refine kw_Si [_, _] mX12_hasOwn dX12_bodyFrom_6 lX12_371 wX12_hasOwn rfl rfl rfl (qX12_hasOwn_1_1 hv) (by omega) ?_
  refine kv_if_ne dX12_bodyFrom_9 22 (by decide) (fun h1 => ?_) (fun h1 => ?_)
  · refine kv_aload_n dX12_bodyFrom_22 rfl ?_
    refine kw_gI dX12_bodyFrom_23 fX12_374 hv (by first | rfl | assumption) rfl rfl ?_
    rw [hs.2.2.2.2.1]
    refine kv_if_eq dX12_bodyFrom_26 33 (by decide) (fun h2 => ?_) (fun h2 => ?_)
    · have hp := h2
      refine kv_aload_n dX12_bodyFrom_33 rfl ?_
      refine kv_iload dX12_bodyFrom_34 rfl ?_
      refine kv_iload_n dX12_bodyFrom_36 rfl ?_
      refine kv_iload_n dX12_bodyFrom_37 rfl ?_
      refine kw_VQ [_, _, _] mX12_body dX12_bodyFrom_38 lX12_377 wX12_body kC12 hv rfl (by first | rfl | assumption) rfl rfl rfl (qX12_body_20 hu eg hK he hI x hs hp hfu) (by omega) (fun _ v1 q1 => ?_)
      obtain ⟨rfl, hs1⟩ := q1
      have hv1 := hs1.1.wd hu
      exact kv_iret dX12_bodyFrom_41 rfl (by first | exact ⟨by rw [kSp_y hp], by rw [kSp_y hp]; exact hs⟩ | exact ⟨by rw [kSp_n hp]; rfl, by rw [kSp_n hp]; exact hs1⟩)
    · have hp := h2
      refine kv_iconst dX12_bodyFrom_29 0 ki_0 ?_
      refine kv_goto dX12_bodyFrom_30 41 (by decide) ?_
      exact kv_iret dX12_bodyFrom_41 rfl (by first | exact ⟨by rw [kSp_y hp], by rw [kSp_y hp]; exact hs⟩ | exact ⟨by rw [kSp_n hp]; rfl, by rw [kSp_n hp]; exact hs1⟩)
  · exact absurd h1 (by decide)

set_option maxRecDepth 20000 in
set_option maxHeartbeats 4000000 in
theorem qX12_bodyFrom_1_2 {w : KW} {l : Launch} {u : KMem} (hu : kWd u) {g : Nat → Int32} (eg : u.2.1 414 = g) {K e : Nat} (hK : K < 5) (he : e < 40) {f : Nat} (hI : ∀ (fr act : Nat) (x : Int32) (v : KMem) (s : kVS), fr < 5 → act < 4 → kFu K f fr act = true → kVM u K e s v → KC w l mX12_bodyFrom (3 * f + 2) 0 0 [.ref 413, .int (nI fr), .int (nI act), .int x] v (fun r z => r = some (.int (kSp K (g (1128 + 5 * e + 3)) (nI e) f fr act x s).1) ∧ kVM u K e (kSp K (g (1128 + 5 * e + 3)) (nI e) f fr act x s).2 z)) (x : Int32) {v : KMem} {s : kVS} (hs : kVM u K e s v) (hfu : kFu K (f + 1) 1 2 = true) : KC w l mX12_bodyFrom (3 * (f + 1) + 2) 0 0 [.ref 413, .int 1, .int 2, .int x] v (fun r z => r = some (.int (kSp K (g (1128 + 5 * e + 3)) (nI e) (f + 1) 1 2 x s).1) ∧ kVM u K e (kSp K (g (1128 + 5 * e + 3)) (nI e) (f + 1) 1 2 x s).2 z) := by
  have hv := hs.1.wd hu
  refine KC.of (ls := [_, _, _, _, _]) rfl rfl (Nat.le_of_ble_eq_true rfl) ?_
  refine kv_iload_n dX12_bodyFrom_0 rfl ?_
  refine kv_istore (ls2 := [_, _, _, _, _]) dX12_bodyFrom_1 rfl rfl rfl rfl ?_
  refine kv_iload dX12_bodyFrom_3 rfl ?_
  refine kv_iload_n dX12_bodyFrom_5 rfl ?_
  refine kw_Si [_, _] mX12_hasOwn dX12_bodyFrom_6 lX12_371 wX12_hasOwn rfl rfl rfl (qX12_hasOwn_1_2 hv) (by omega) ?_
  refine kv_if_ne dX12_bodyFrom_9 22 (by decide) (fun h1 => ?_) (fun h1 => ?_)
  · exact absurd h1 (by decide)
  · refine kv_iload dX12_bodyFrom_12 rfl ?_
    refine kw_Si [_] mX12_above dX12_bodyFrom_14 lX12_304 wX12_above rfl rfl rfl (qX12_above (by exact hv) _) (by omega) ?_
    rw [show kAbove 1 = 0 from rfl]
    refine kv_istore (ls2 := [_, _, _, _, _]) dX12_bodyFrom_17 rfl rfl rfl rfl ?_
    refine kv_goto dX12_bodyFrom_19 3 (by decide) ?_
    refine kv_iload dX12_bodyFrom_3 rfl ?_
    refine kv_iload_n dX12_bodyFrom_5 rfl ?_
    refine kw_Si [_, _] mX12_hasOwn dX12_bodyFrom_6 lX12_371 wX12_hasOwn rfl rfl rfl (qX12_hasOwn_0_2 hv) (by omega) ?_
    refine kv_if_ne dX12_bodyFrom_9 22 (by decide) (fun h2 => ?_) (fun h2 => ?_)
    · refine kv_aload_n dX12_bodyFrom_22 rfl ?_
      refine kw_gI dX12_bodyFrom_23 fX12_374 hv (by first | rfl | assumption) rfl rfl ?_
      rw [hs.2.2.2.2.1]
      refine kv_if_eq dX12_bodyFrom_26 33 (by decide) (fun h3 => ?_) (fun h3 => ?_)
      · have hp := h3
        refine kv_aload_n dX12_bodyFrom_33 rfl ?_
        refine kv_iload dX12_bodyFrom_34 rfl ?_
        refine kv_iload_n dX12_bodyFrom_36 rfl ?_
        refine kv_iload_n dX12_bodyFrom_37 rfl ?_
        refine kw_VQ [_, _, _] mX12_body dX12_bodyFrom_38 lX12_377 wX12_body kC12 hv rfl (by first | rfl | assumption) rfl rfl rfl (qX12_body_12 hu eg hK he hI x hs hp hfu) (by omega) (fun _ v1 q1 => ?_)
        obtain ⟨rfl, hs1⟩ := q1
        have hv1 := hs1.1.wd hu
        exact kv_iret dX12_bodyFrom_41 rfl (by first | exact ⟨by rw [kSp_y hp], by rw [kSp_y hp]; exact hs⟩ | exact ⟨by rw [kSp_n hp]; rfl, by rw [kSp_n hp]; exact hs1⟩)
      · have hp := h3
        refine kv_iconst dX12_bodyFrom_29 0 ki_0 ?_
        refine kv_goto dX12_bodyFrom_30 41 (by decide) ?_
        exact kv_iret dX12_bodyFrom_41 rfl (by first | exact ⟨by rw [kSp_y hp], by rw [kSp_y hp]; exact hs⟩ | exact ⟨by rw [kSp_n hp]; rfl, by rw [kSp_n hp]; exact hs1⟩)
    · exact absurd h2 (by decide)

set_option maxRecDepth 20000 in
set_option maxHeartbeats 4000000 in
theorem qX12_bodyFrom_1_3 {w : KW} {l : Launch} {u : KMem} (hu : kWd u) {g : Nat → Int32} (eg : u.2.1 414 = g) {K e : Nat} (hK : K < 5) (he : e < 40) {f : Nat} (hI : ∀ (fr act : Nat) (x : Int32) (v : KMem) (s : kVS), fr < 5 → act < 4 → kFu K f fr act = true → kVM u K e s v → KC w l mX12_bodyFrom (3 * f + 2) 0 0 [.ref 413, .int (nI fr), .int (nI act), .int x] v (fun r z => r = some (.int (kSp K (g (1128 + 5 * e + 3)) (nI e) f fr act x s).1) ∧ kVM u K e (kSp K (g (1128 + 5 * e + 3)) (nI e) f fr act x s).2 z)) (x : Int32) {v : KMem} {s : kVS} (hs : kVM u K e s v) (hfu : kFu K (f + 1) 1 3 = true) : KC w l mX12_bodyFrom (3 * (f + 1) + 2) 0 0 [.ref 413, .int 1, .int 3, .int x] v (fun r z => r = some (.int (kSp K (g (1128 + 5 * e + 3)) (nI e) (f + 1) 1 3 x s).1) ∧ kVM u K e (kSp K (g (1128 + 5 * e + 3)) (nI e) (f + 1) 1 3 x s).2 z) := by
  have hv := hs.1.wd hu
  refine KC.of (ls := [_, _, _, _, _]) rfl rfl (Nat.le_of_ble_eq_true rfl) ?_
  refine kv_iload_n dX12_bodyFrom_0 rfl ?_
  refine kv_istore (ls2 := [_, _, _, _, _]) dX12_bodyFrom_1 rfl rfl rfl rfl ?_
  refine kv_iload dX12_bodyFrom_3 rfl ?_
  refine kv_iload_n dX12_bodyFrom_5 rfl ?_
  refine kw_Si [_, _] mX12_hasOwn dX12_bodyFrom_6 lX12_371 wX12_hasOwn rfl rfl rfl (qX12_hasOwn_1_3 hv) (by omega) ?_
  refine kv_if_ne dX12_bodyFrom_9 22 (by decide) (fun h1 => ?_) (fun h1 => ?_)
  · refine kv_aload_n dX12_bodyFrom_22 rfl ?_
    refine kw_gI dX12_bodyFrom_23 fX12_374 hv (by first | rfl | assumption) rfl rfl ?_
    rw [hs.2.2.2.2.1]
    refine kv_if_eq dX12_bodyFrom_26 33 (by decide) (fun h2 => ?_) (fun h2 => ?_)
    · have hp := h2
      refine kv_aload_n dX12_bodyFrom_33 rfl ?_
      refine kv_iload dX12_bodyFrom_34 rfl ?_
      refine kv_iload_n dX12_bodyFrom_36 rfl ?_
      refine kv_iload_n dX12_bodyFrom_37 rfl ?_
      refine kw_VQ [_, _, _] mX12_body dX12_bodyFrom_38 lX12_377 wX12_body kC12 hv rfl (by first | rfl | assumption) rfl rfl rfl (qX12_body_21 hu eg hK he hI x hs hp hfu) (by omega) (fun _ v1 q1 => ?_)
      obtain ⟨rfl, hs1⟩ := q1
      have hv1 := hs1.1.wd hu
      exact kv_iret dX12_bodyFrom_41 rfl (by first | exact ⟨by rw [kSp_y hp], by rw [kSp_y hp]; exact hs⟩ | exact ⟨by rw [kSp_n hp]; rfl, by rw [kSp_n hp]; exact hs1⟩)
    · have hp := h2
      refine kv_iconst dX12_bodyFrom_29 0 ki_0 ?_
      refine kv_goto dX12_bodyFrom_30 41 (by decide) ?_
      exact kv_iret dX12_bodyFrom_41 rfl (by first | exact ⟨by rw [kSp_y hp], by rw [kSp_y hp]; exact hs⟩ | exact ⟨by rw [kSp_n hp]; rfl, by rw [kSp_n hp]; exact hs1⟩)
  · exact absurd h1 (by decide)

set_option maxRecDepth 20000 in
set_option maxHeartbeats 4000000 in
theorem qX12_bodyFrom_2_0 {w : KW} {l : Launch} {u : KMem} (hu : kWd u) {g : Nat → Int32} (eg : u.2.1 414 = g) {K e : Nat} (hK : K < 5) (he : e < 40) {f : Nat} (hI : ∀ (fr act : Nat) (x : Int32) (v : KMem) (s : kVS), fr < 5 → act < 4 → kFu K f fr act = true → kVM u K e s v → KC w l mX12_bodyFrom (3 * f + 2) 0 0 [.ref 413, .int (nI fr), .int (nI act), .int x] v (fun r z => r = some (.int (kSp K (g (1128 + 5 * e + 3)) (nI e) f fr act x s).1) ∧ kVM u K e (kSp K (g (1128 + 5 * e + 3)) (nI e) f fr act x s).2 z)) (x : Int32) {v : KMem} {s : kVS} (hs : kVM u K e s v) (hfu : kFu K (f + 1) 2 0 = true) : KC w l mX12_bodyFrom (3 * (f + 1) + 2) 0 0 [.ref 413, .int 2, .int 0, .int x] v (fun r z => r = some (.int (kSp K (g (1128 + 5 * e + 3)) (nI e) (f + 1) 2 0 x s).1) ∧ kVM u K e (kSp K (g (1128 + 5 * e + 3)) (nI e) (f + 1) 2 0 x s).2 z) := by
  have hv := hs.1.wd hu
  refine KC.of (ls := [_, _, _, _, _]) rfl rfl (Nat.le_of_ble_eq_true rfl) ?_
  refine kv_iload_n dX12_bodyFrom_0 rfl ?_
  refine kv_istore (ls2 := [_, _, _, _, _]) dX12_bodyFrom_1 rfl rfl rfl rfl ?_
  refine kv_iload dX12_bodyFrom_3 rfl ?_
  refine kv_iload_n dX12_bodyFrom_5 rfl ?_
  refine kw_Si [_, _] mX12_hasOwn dX12_bodyFrom_6 lX12_371 wX12_hasOwn rfl rfl rfl (qX12_hasOwn_2_0 hv) (by omega) ?_
  refine kv_if_ne dX12_bodyFrom_9 22 (by decide) (fun h1 => ?_) (fun h1 => ?_)
  · refine kv_aload_n dX12_bodyFrom_22 rfl ?_
    refine kw_gI dX12_bodyFrom_23 fX12_374 hv (by first | rfl | assumption) rfl rfl ?_
    rw [hs.2.2.2.2.1]
    refine kv_if_eq dX12_bodyFrom_26 33 (by decide) (fun h2 => ?_) (fun h2 => ?_)
    · have hp := h2
      refine kv_aload_n dX12_bodyFrom_33 rfl ?_
      refine kv_iload dX12_bodyFrom_34 rfl ?_
      refine kv_iload_n dX12_bodyFrom_36 rfl ?_
      refine kv_iload_n dX12_bodyFrom_37 rfl ?_
      refine kw_VQ [_, _, _] mX12_body dX12_bodyFrom_38 lX12_377 wX12_body kC12 hv rfl (by first | rfl | assumption) rfl rfl rfl (qX12_body_30 hu eg hK he hI x hs hp hfu) (by omega) (fun _ v1 q1 => ?_)
      obtain ⟨rfl, hs1⟩ := q1
      have hv1 := hs1.1.wd hu
      exact kv_iret dX12_bodyFrom_41 rfl (by first | exact ⟨by rw [kSp_y hp], by rw [kSp_y hp]; exact hs⟩ | exact ⟨by rw [kSp_n hp]; rfl, by rw [kSp_n hp]; exact hs1⟩)
    · have hp := h2
      refine kv_iconst dX12_bodyFrom_29 0 ki_0 ?_
      refine kv_goto dX12_bodyFrom_30 41 (by decide) ?_
      exact kv_iret dX12_bodyFrom_41 rfl (by first | exact ⟨by rw [kSp_y hp], by rw [kSp_y hp]; exact hs⟩ | exact ⟨by rw [kSp_n hp]; rfl, by rw [kSp_n hp]; exact hs1⟩)
  · exact absurd h1 (by decide)

set_option maxRecDepth 20000 in
set_option maxHeartbeats 4000000 in
theorem qX12_bodyFrom_2_1 {w : KW} {l : Launch} {u : KMem} (hu : kWd u) {g : Nat → Int32} (eg : u.2.1 414 = g) {K e : Nat} (hK : K < 5) (he : e < 40) {f : Nat} (hI : ∀ (fr act : Nat) (x : Int32) (v : KMem) (s : kVS), fr < 5 → act < 4 → kFu K f fr act = true → kVM u K e s v → KC w l mX12_bodyFrom (3 * f + 2) 0 0 [.ref 413, .int (nI fr), .int (nI act), .int x] v (fun r z => r = some (.int (kSp K (g (1128 + 5 * e + 3)) (nI e) f fr act x s).1) ∧ kVM u K e (kSp K (g (1128 + 5 * e + 3)) (nI e) f fr act x s).2 z)) (x : Int32) {v : KMem} {s : kVS} (hs : kVM u K e s v) (hfu : kFu K (f + 1) 2 1 = true) : KC w l mX12_bodyFrom (3 * (f + 1) + 2) 0 0 [.ref 413, .int 2, .int 1, .int x] v (fun r z => r = some (.int (kSp K (g (1128 + 5 * e + 3)) (nI e) (f + 1) 2 1 x s).1) ∧ kVM u K e (kSp K (g (1128 + 5 * e + 3)) (nI e) (f + 1) 2 1 x s).2 z) := by
  have hv := hs.1.wd hu
  refine KC.of (ls := [_, _, _, _, _]) rfl rfl (Nat.le_of_ble_eq_true rfl) ?_
  refine kv_iload_n dX12_bodyFrom_0 rfl ?_
  refine kv_istore (ls2 := [_, _, _, _, _]) dX12_bodyFrom_1 rfl rfl rfl rfl ?_
  refine kv_iload dX12_bodyFrom_3 rfl ?_
  refine kv_iload_n dX12_bodyFrom_5 rfl ?_
  refine kw_Si [_, _] mX12_hasOwn dX12_bodyFrom_6 lX12_371 wX12_hasOwn rfl rfl rfl (qX12_hasOwn_2_1 hv) (by omega) ?_
  refine kv_if_ne dX12_bodyFrom_9 22 (by decide) (fun h1 => ?_) (fun h1 => ?_)
  · exact absurd h1 (by decide)
  · refine kv_iload dX12_bodyFrom_12 rfl ?_
    refine kw_Si [_] mX12_above dX12_bodyFrom_14 lX12_304 wX12_above rfl rfl rfl (qX12_above (by exact hv) _) (by omega) ?_
    rw [show kAbove 2 = 1 from rfl]
    refine kv_istore (ls2 := [_, _, _, _, _]) dX12_bodyFrom_17 rfl rfl rfl rfl ?_
    refine kv_goto dX12_bodyFrom_19 3 (by decide) ?_
    refine kv_iload dX12_bodyFrom_3 rfl ?_
    refine kv_iload_n dX12_bodyFrom_5 rfl ?_
    refine kw_Si [_, _] mX12_hasOwn dX12_bodyFrom_6 lX12_371 wX12_hasOwn rfl rfl rfl (qX12_hasOwn_1_1 hv) (by omega) ?_
    refine kv_if_ne dX12_bodyFrom_9 22 (by decide) (fun h2 => ?_) (fun h2 => ?_)
    · refine kv_aload_n dX12_bodyFrom_22 rfl ?_
      refine kw_gI dX12_bodyFrom_23 fX12_374 hv (by first | rfl | assumption) rfl rfl ?_
      rw [hs.2.2.2.2.1]
      refine kv_if_eq dX12_bodyFrom_26 33 (by decide) (fun h3 => ?_) (fun h3 => ?_)
      · have hp := h3
        refine kv_aload_n dX12_bodyFrom_33 rfl ?_
        refine kv_iload dX12_bodyFrom_34 rfl ?_
        refine kv_iload_n dX12_bodyFrom_36 rfl ?_
        refine kv_iload_n dX12_bodyFrom_37 rfl ?_
        refine kw_VQ [_, _, _] mX12_body dX12_bodyFrom_38 lX12_377 wX12_body kC12 hv rfl (by first | rfl | assumption) rfl rfl rfl (qX12_body_20 hu eg hK he hI x hs hp hfu) (by omega) (fun _ v1 q1 => ?_)
        obtain ⟨rfl, hs1⟩ := q1
        have hv1 := hs1.1.wd hu
        exact kv_iret dX12_bodyFrom_41 rfl (by first | exact ⟨by rw [kSp_y hp], by rw [kSp_y hp]; exact hs⟩ | exact ⟨by rw [kSp_n hp]; rfl, by rw [kSp_n hp]; exact hs1⟩)
      · have hp := h3
        refine kv_iconst dX12_bodyFrom_29 0 ki_0 ?_
        refine kv_goto dX12_bodyFrom_30 41 (by decide) ?_
        exact kv_iret dX12_bodyFrom_41 rfl (by first | exact ⟨by rw [kSp_y hp], by rw [kSp_y hp]; exact hs⟩ | exact ⟨by rw [kSp_n hp]; rfl, by rw [kSp_n hp]; exact hs1⟩)
    · exact absurd h2 (by decide)

set_option maxRecDepth 20000 in
set_option maxHeartbeats 4000000 in
theorem qX12_bodyFrom_2_2 {w : KW} {l : Launch} {u : KMem} (hu : kWd u) {g : Nat → Int32} (eg : u.2.1 414 = g) {K e : Nat} (hK : K < 5) (he : e < 40) {f : Nat} (hI : ∀ (fr act : Nat) (x : Int32) (v : KMem) (s : kVS), fr < 5 → act < 4 → kFu K f fr act = true → kVM u K e s v → KC w l mX12_bodyFrom (3 * f + 2) 0 0 [.ref 413, .int (nI fr), .int (nI act), .int x] v (fun r z => r = some (.int (kSp K (g (1128 + 5 * e + 3)) (nI e) f fr act x s).1) ∧ kVM u K e (kSp K (g (1128 + 5 * e + 3)) (nI e) f fr act x s).2 z)) (x : Int32) {v : KMem} {s : kVS} (hs : kVM u K e s v) (hfu : kFu K (f + 1) 2 2 = true) : KC w l mX12_bodyFrom (3 * (f + 1) + 2) 0 0 [.ref 413, .int 2, .int 2, .int x] v (fun r z => r = some (.int (kSp K (g (1128 + 5 * e + 3)) (nI e) (f + 1) 2 2 x s).1) ∧ kVM u K e (kSp K (g (1128 + 5 * e + 3)) (nI e) (f + 1) 2 2 x s).2 z) := by
  have hv := hs.1.wd hu
  refine KC.of (ls := [_, _, _, _, _]) rfl rfl (Nat.le_of_ble_eq_true rfl) ?_
  refine kv_iload_n dX12_bodyFrom_0 rfl ?_
  refine kv_istore (ls2 := [_, _, _, _, _]) dX12_bodyFrom_1 rfl rfl rfl rfl ?_
  refine kv_iload dX12_bodyFrom_3 rfl ?_
  refine kv_iload_n dX12_bodyFrom_5 rfl ?_
  refine kw_Si [_, _] mX12_hasOwn dX12_bodyFrom_6 lX12_371 wX12_hasOwn rfl rfl rfl (qX12_hasOwn_2_2 hv) (by omega) ?_
  refine kv_if_ne dX12_bodyFrom_9 22 (by decide) (fun h1 => ?_) (fun h1 => ?_)
  · refine kv_aload_n dX12_bodyFrom_22 rfl ?_
    refine kw_gI dX12_bodyFrom_23 fX12_374 hv (by first | rfl | assumption) rfl rfl ?_
    rw [hs.2.2.2.2.1]
    refine kv_if_eq dX12_bodyFrom_26 33 (by decide) (fun h2 => ?_) (fun h2 => ?_)
    · have hp := h2
      refine kv_aload_n dX12_bodyFrom_33 rfl ?_
      refine kv_iload dX12_bodyFrom_34 rfl ?_
      refine kv_iload_n dX12_bodyFrom_36 rfl ?_
      refine kv_iload_n dX12_bodyFrom_37 rfl ?_
      refine kw_VQ [_, _, _] mX12_body dX12_bodyFrom_38 lX12_377 wX12_body kC12 hv rfl (by first | rfl | assumption) rfl rfl rfl (qX12_body_31 hu eg hK he hI x hs hp hfu) (by omega) (fun _ v1 q1 => ?_)
      obtain ⟨rfl, hs1⟩ := q1
      have hv1 := hs1.1.wd hu
      exact kv_iret dX12_bodyFrom_41 rfl (by first | exact ⟨by rw [kSp_y hp], by rw [kSp_y hp]; exact hs⟩ | exact ⟨by rw [kSp_n hp]; rfl, by rw [kSp_n hp]; exact hs1⟩)
    · have hp := h2
      refine kv_iconst dX12_bodyFrom_29 0 ki_0 ?_
      refine kv_goto dX12_bodyFrom_30 41 (by decide) ?_
      exact kv_iret dX12_bodyFrom_41 rfl (by first | exact ⟨by rw [kSp_y hp], by rw [kSp_y hp]; exact hs⟩ | exact ⟨by rw [kSp_n hp]; rfl, by rw [kSp_n hp]; exact hs1⟩)
  · exact absurd h1 (by decide)

set_option maxRecDepth 20000 in
set_option maxHeartbeats 4000000 in
theorem qX12_bodyFrom_2_3 {w : KW} {l : Launch} {u : KMem} (hu : kWd u) {g : Nat → Int32} (eg : u.2.1 414 = g) {K e : Nat} (hK : K < 5) (he : e < 40) {f : Nat} (hI : ∀ (fr act : Nat) (x : Int32) (v : KMem) (s : kVS), fr < 5 → act < 4 → kFu K f fr act = true → kVM u K e s v → KC w l mX12_bodyFrom (3 * f + 2) 0 0 [.ref 413, .int (nI fr), .int (nI act), .int x] v (fun r z => r = some (.int (kSp K (g (1128 + 5 * e + 3)) (nI e) f fr act x s).1) ∧ kVM u K e (kSp K (g (1128 + 5 * e + 3)) (nI e) f fr act x s).2 z)) (x : Int32) {v : KMem} {s : kVS} (hs : kVM u K e s v) (hfu : kFu K (f + 1) 2 3 = true) : KC w l mX12_bodyFrom (3 * (f + 1) + 2) 0 0 [.ref 413, .int 2, .int 3, .int x] v (fun r z => r = some (.int (kSp K (g (1128 + 5 * e + 3)) (nI e) (f + 1) 2 3 x s).1) ∧ kVM u K e (kSp K (g (1128 + 5 * e + 3)) (nI e) (f + 1) 2 3 x s).2 z) := by
  have hv := hs.1.wd hu
  refine KC.of (ls := [_, _, _, _, _]) rfl rfl (Nat.le_of_ble_eq_true rfl) ?_
  refine kv_iload_n dX12_bodyFrom_0 rfl ?_
  refine kv_istore (ls2 := [_, _, _, _, _]) dX12_bodyFrom_1 rfl rfl rfl rfl ?_
  refine kv_iload dX12_bodyFrom_3 rfl ?_
  refine kv_iload_n dX12_bodyFrom_5 rfl ?_
  refine kw_Si [_, _] mX12_hasOwn dX12_bodyFrom_6 lX12_371 wX12_hasOwn rfl rfl rfl (qX12_hasOwn_2_3 hv) (by omega) ?_
  refine kv_if_ne dX12_bodyFrom_9 22 (by decide) (fun h1 => ?_) (fun h1 => ?_)
  · exact absurd h1 (by decide)
  · refine kv_iload dX12_bodyFrom_12 rfl ?_
    refine kw_Si [_] mX12_above dX12_bodyFrom_14 lX12_304 wX12_above rfl rfl rfl (qX12_above (by exact hv) _) (by omega) ?_
    rw [show kAbove 2 = 1 from rfl]
    refine kv_istore (ls2 := [_, _, _, _, _]) dX12_bodyFrom_17 rfl rfl rfl rfl ?_
    refine kv_goto dX12_bodyFrom_19 3 (by decide) ?_
    refine kv_iload dX12_bodyFrom_3 rfl ?_
    refine kv_iload_n dX12_bodyFrom_5 rfl ?_
    refine kw_Si [_, _] mX12_hasOwn dX12_bodyFrom_6 lX12_371 wX12_hasOwn rfl rfl rfl (qX12_hasOwn_1_3 hv) (by omega) ?_
    refine kv_if_ne dX12_bodyFrom_9 22 (by decide) (fun h2 => ?_) (fun h2 => ?_)
    · refine kv_aload_n dX12_bodyFrom_22 rfl ?_
      refine kw_gI dX12_bodyFrom_23 fX12_374 hv (by first | rfl | assumption) rfl rfl ?_
      rw [hs.2.2.2.2.1]
      refine kv_if_eq dX12_bodyFrom_26 33 (by decide) (fun h3 => ?_) (fun h3 => ?_)
      · have hp := h3
        refine kv_aload_n dX12_bodyFrom_33 rfl ?_
        refine kv_iload dX12_bodyFrom_34 rfl ?_
        refine kv_iload_n dX12_bodyFrom_36 rfl ?_
        refine kv_iload_n dX12_bodyFrom_37 rfl ?_
        refine kw_VQ [_, _, _] mX12_body dX12_bodyFrom_38 lX12_377 wX12_body kC12 hv rfl (by first | rfl | assumption) rfl rfl rfl (qX12_body_21 hu eg hK he hI x hs hp hfu) (by omega) (fun _ v1 q1 => ?_)
        obtain ⟨rfl, hs1⟩ := q1
        have hv1 := hs1.1.wd hu
        exact kv_iret dX12_bodyFrom_41 rfl (by first | exact ⟨by rw [kSp_y hp], by rw [kSp_y hp]; exact hs⟩ | exact ⟨by rw [kSp_n hp]; rfl, by rw [kSp_n hp]; exact hs1⟩)
      · have hp := h3
        refine kv_iconst dX12_bodyFrom_29 0 ki_0 ?_
        refine kv_goto dX12_bodyFrom_30 41 (by decide) ?_
        exact kv_iret dX12_bodyFrom_41 rfl (by first | exact ⟨by rw [kSp_y hp], by rw [kSp_y hp]; exact hs⟩ | exact ⟨by rw [kSp_n hp]; rfl, by rw [kSp_n hp]; exact hs1⟩)
    · exact absurd h2 (by decide)

set_option maxRecDepth 20000 in
set_option maxHeartbeats 4000000 in
theorem qX12_bodyFrom_3_0 {w : KW} {l : Launch} {u : KMem} (hu : kWd u) {g : Nat → Int32} (eg : u.2.1 414 = g) {K e : Nat} (hK : K < 5) (he : e < 40) {f : Nat} (hI : ∀ (fr act : Nat) (x : Int32) (v : KMem) (s : kVS), fr < 5 → act < 4 → kFu K f fr act = true → kVM u K e s v → KC w l mX12_bodyFrom (3 * f + 2) 0 0 [.ref 413, .int (nI fr), .int (nI act), .int x] v (fun r z => r = some (.int (kSp K (g (1128 + 5 * e + 3)) (nI e) f fr act x s).1) ∧ kVM u K e (kSp K (g (1128 + 5 * e + 3)) (nI e) f fr act x s).2 z)) (x : Int32) {v : KMem} {s : kVS} (hs : kVM u K e s v) (hfu : kFu K (f + 1) 3 0 = true) : KC w l mX12_bodyFrom (3 * (f + 1) + 2) 0 0 [.ref 413, .int 3, .int 0, .int x] v (fun r z => r = some (.int (kSp K (g (1128 + 5 * e + 3)) (nI e) (f + 1) 3 0 x s).1) ∧ kVM u K e (kSp K (g (1128 + 5 * e + 3)) (nI e) (f + 1) 3 0 x s).2 z) := by
  have hv := hs.1.wd hu
  refine KC.of (ls := [_, _, _, _, _]) rfl rfl (Nat.le_of_ble_eq_true rfl) ?_
  refine kv_iload_n dX12_bodyFrom_0 rfl ?_
  refine kv_istore (ls2 := [_, _, _, _, _]) dX12_bodyFrom_1 rfl rfl rfl rfl ?_
  refine kv_iload dX12_bodyFrom_3 rfl ?_
  refine kv_iload_n dX12_bodyFrom_5 rfl ?_
  refine kw_Si [_, _] mX12_hasOwn dX12_bodyFrom_6 lX12_371 wX12_hasOwn rfl rfl rfl (qX12_hasOwn_3_0 hv) (by omega) ?_
  refine kv_if_ne dX12_bodyFrom_9 22 (by decide) (fun h1 => ?_) (fun h1 => ?_)
  · refine kv_aload_n dX12_bodyFrom_22 rfl ?_
    refine kw_gI dX12_bodyFrom_23 fX12_374 hv (by first | rfl | assumption) rfl rfl ?_
    rw [hs.2.2.2.2.1]
    refine kv_if_eq dX12_bodyFrom_26 33 (by decide) (fun h2 => ?_) (fun h2 => ?_)
    · have hp := h2
      refine kv_aload_n dX12_bodyFrom_33 rfl ?_
      refine kv_iload dX12_bodyFrom_34 rfl ?_
      refine kv_iload_n dX12_bodyFrom_36 rfl ?_
      refine kv_iload_n dX12_bodyFrom_37 rfl ?_
      refine kw_VQ [_, _, _] mX12_body dX12_bodyFrom_38 lX12_377 wX12_body kC12 hv rfl (by first | rfl | assumption) rfl rfl rfl (qX12_body_40 hu eg hK he hI x hs hp hfu) (by omega) (fun _ v1 q1 => ?_)
      obtain ⟨rfl, hs1⟩ := q1
      have hv1 := hs1.1.wd hu
      exact kv_iret dX12_bodyFrom_41 rfl (by first | exact ⟨by rw [kSp_y hp], by rw [kSp_y hp]; exact hs⟩ | exact ⟨by rw [kSp_n hp]; rfl, by rw [kSp_n hp]; exact hs1⟩)
    · have hp := h2
      refine kv_iconst dX12_bodyFrom_29 0 ki_0 ?_
      refine kv_goto dX12_bodyFrom_30 41 (by decide) ?_
      exact kv_iret dX12_bodyFrom_41 rfl (by first | exact ⟨by rw [kSp_y hp], by rw [kSp_y hp]; exact hs⟩ | exact ⟨by rw [kSp_n hp]; rfl, by rw [kSp_n hp]; exact hs1⟩)
  · exact absurd h1 (by decide)

set_option maxRecDepth 20000 in
set_option maxHeartbeats 4000000 in
theorem qX12_bodyFrom_3_1 {w : KW} {l : Launch} {u : KMem} (hu : kWd u) {g : Nat → Int32} (eg : u.2.1 414 = g) {K e : Nat} (hK : K < 5) (he : e < 40) {f : Nat} (hI : ∀ (fr act : Nat) (x : Int32) (v : KMem) (s : kVS), fr < 5 → act < 4 → kFu K f fr act = true → kVM u K e s v → KC w l mX12_bodyFrom (3 * f + 2) 0 0 [.ref 413, .int (nI fr), .int (nI act), .int x] v (fun r z => r = some (.int (kSp K (g (1128 + 5 * e + 3)) (nI e) f fr act x s).1) ∧ kVM u K e (kSp K (g (1128 + 5 * e + 3)) (nI e) f fr act x s).2 z)) (x : Int32) {v : KMem} {s : kVS} (hs : kVM u K e s v) (hfu : kFu K (f + 1) 3 1 = true) : KC w l mX12_bodyFrom (3 * (f + 1) + 2) 0 0 [.ref 413, .int 3, .int 1, .int x] v (fun r z => r = some (.int (kSp K (g (1128 + 5 * e + 3)) (nI e) (f + 1) 3 1 x s).1) ∧ kVM u K e (kSp K (g (1128 + 5 * e + 3)) (nI e) (f + 1) 3 1 x s).2 z) := by
  have hv := hs.1.wd hu
  refine KC.of (ls := [_, _, _, _, _]) rfl rfl (Nat.le_of_ble_eq_true rfl) ?_
  refine kv_iload_n dX12_bodyFrom_0 rfl ?_
  refine kv_istore (ls2 := [_, _, _, _, _]) dX12_bodyFrom_1 rfl rfl rfl rfl ?_
  refine kv_iload dX12_bodyFrom_3 rfl ?_
  refine kv_iload_n dX12_bodyFrom_5 rfl ?_
  refine kw_Si [_, _] mX12_hasOwn dX12_bodyFrom_6 lX12_371 wX12_hasOwn rfl rfl rfl (qX12_hasOwn_3_1 hv) (by omega) ?_
  refine kv_if_ne dX12_bodyFrom_9 22 (by decide) (fun h1 => ?_) (fun h1 => ?_)
  · exact absurd h1 (by decide)
  · refine kv_iload dX12_bodyFrom_12 rfl ?_
    refine kw_Si [_] mX12_above dX12_bodyFrom_14 lX12_304 wX12_above rfl rfl rfl (qX12_above (by exact hv) _) (by omega) ?_
    rw [show kAbove 3 = 0 from rfl]
    refine kv_istore (ls2 := [_, _, _, _, _]) dX12_bodyFrom_17 rfl rfl rfl rfl ?_
    refine kv_goto dX12_bodyFrom_19 3 (by decide) ?_
    refine kv_iload dX12_bodyFrom_3 rfl ?_
    refine kv_iload_n dX12_bodyFrom_5 rfl ?_
    refine kw_Si [_, _] mX12_hasOwn dX12_bodyFrom_6 lX12_371 wX12_hasOwn rfl rfl rfl (qX12_hasOwn_0_1 hv) (by omega) ?_
    refine kv_if_ne dX12_bodyFrom_9 22 (by decide) (fun h2 => ?_) (fun h2 => ?_)
    · refine kv_aload_n dX12_bodyFrom_22 rfl ?_
      refine kw_gI dX12_bodyFrom_23 fX12_374 hv (by first | rfl | assumption) rfl rfl ?_
      rw [hs.2.2.2.2.1]
      refine kv_if_eq dX12_bodyFrom_26 33 (by decide) (fun h3 => ?_) (fun h3 => ?_)
      · have hp := h3
        refine kv_aload_n dX12_bodyFrom_33 rfl ?_
        refine kv_iload dX12_bodyFrom_34 rfl ?_
        refine kv_iload_n dX12_bodyFrom_36 rfl ?_
        refine kv_iload_n dX12_bodyFrom_37 rfl ?_
        refine kw_VQ [_, _, _] mX12_body dX12_bodyFrom_38 lX12_377 wX12_body kC12 hv rfl (by first | rfl | assumption) rfl rfl rfl (qX12_body_11 hu eg hK he hI x hs hp hfu) (by omega) (fun _ v1 q1 => ?_)
        obtain ⟨rfl, hs1⟩ := q1
        have hv1 := hs1.1.wd hu
        exact kv_iret dX12_bodyFrom_41 rfl (by first | exact ⟨by rw [kSp_y hp], by rw [kSp_y hp]; exact hs⟩ | exact ⟨by rw [kSp_n hp]; rfl, by rw [kSp_n hp]; exact hs1⟩)
      · have hp := h3
        refine kv_iconst dX12_bodyFrom_29 0 ki_0 ?_
        refine kv_goto dX12_bodyFrom_30 41 (by decide) ?_
        exact kv_iret dX12_bodyFrom_41 rfl (by first | exact ⟨by rw [kSp_y hp], by rw [kSp_y hp]; exact hs⟩ | exact ⟨by rw [kSp_n hp]; rfl, by rw [kSp_n hp]; exact hs1⟩)
    · exact absurd h2 (by decide)

set_option maxRecDepth 20000 in
set_option maxHeartbeats 4000000 in
theorem qX12_bodyFrom_3_2 {w : KW} {l : Launch} {u : KMem} (hu : kWd u) {g : Nat → Int32} (eg : u.2.1 414 = g) {K e : Nat} (hK : K < 5) (he : e < 40) {f : Nat} (hI : ∀ (fr act : Nat) (x : Int32) (v : KMem) (s : kVS), fr < 5 → act < 4 → kFu K f fr act = true → kVM u K e s v → KC w l mX12_bodyFrom (3 * f + 2) 0 0 [.ref 413, .int (nI fr), .int (nI act), .int x] v (fun r z => r = some (.int (kSp K (g (1128 + 5 * e + 3)) (nI e) f fr act x s).1) ∧ kVM u K e (kSp K (g (1128 + 5 * e + 3)) (nI e) f fr act x s).2 z)) (x : Int32) {v : KMem} {s : kVS} (hs : kVM u K e s v) (hfu : kFu K (f + 1) 3 2 = true) : KC w l mX12_bodyFrom (3 * (f + 1) + 2) 0 0 [.ref 413, .int 3, .int 2, .int x] v (fun r z => r = some (.int (kSp K (g (1128 + 5 * e + 3)) (nI e) (f + 1) 3 2 x s).1) ∧ kVM u K e (kSp K (g (1128 + 5 * e + 3)) (nI e) (f + 1) 3 2 x s).2 z) := by
  have hv := hs.1.wd hu
  refine KC.of (ls := [_, _, _, _, _]) rfl rfl (Nat.le_of_ble_eq_true rfl) ?_
  refine kv_iload_n dX12_bodyFrom_0 rfl ?_
  refine kv_istore (ls2 := [_, _, _, _, _]) dX12_bodyFrom_1 rfl rfl rfl rfl ?_
  refine kv_iload dX12_bodyFrom_3 rfl ?_
  refine kv_iload_n dX12_bodyFrom_5 rfl ?_
  refine kw_Si [_, _] mX12_hasOwn dX12_bodyFrom_6 lX12_371 wX12_hasOwn rfl rfl rfl (qX12_hasOwn_3_2 hv) (by omega) ?_
  refine kv_if_ne dX12_bodyFrom_9 22 (by decide) (fun h1 => ?_) (fun h1 => ?_)
  · refine kv_aload_n dX12_bodyFrom_22 rfl ?_
    refine kw_gI dX12_bodyFrom_23 fX12_374 hv (by first | rfl | assumption) rfl rfl ?_
    rw [hs.2.2.2.2.1]
    refine kv_if_eq dX12_bodyFrom_26 33 (by decide) (fun h2 => ?_) (fun h2 => ?_)
    · have hp := h2
      refine kv_aload_n dX12_bodyFrom_33 rfl ?_
      refine kv_iload dX12_bodyFrom_34 rfl ?_
      refine kv_iload_n dX12_bodyFrom_36 rfl ?_
      refine kv_iload_n dX12_bodyFrom_37 rfl ?_
      refine kw_VQ [_, _, _] mX12_body dX12_bodyFrom_38 lX12_377 wX12_body kC12 hv rfl (by first | rfl | assumption) rfl rfl rfl (qX12_body_41 hu eg hK he hI x hs hp hfu) (by omega) (fun _ v1 q1 => ?_)
      obtain ⟨rfl, hs1⟩ := q1
      have hv1 := hs1.1.wd hu
      exact kv_iret dX12_bodyFrom_41 rfl (by first | exact ⟨by rw [kSp_y hp], by rw [kSp_y hp]; exact hs⟩ | exact ⟨by rw [kSp_n hp]; rfl, by rw [kSp_n hp]; exact hs1⟩)
    · have hp := h2
      refine kv_iconst dX12_bodyFrom_29 0 ki_0 ?_
      refine kv_goto dX12_bodyFrom_30 41 (by decide) ?_
      exact kv_iret dX12_bodyFrom_41 rfl (by first | exact ⟨by rw [kSp_y hp], by rw [kSp_y hp]; exact hs⟩ | exact ⟨by rw [kSp_n hp]; rfl, by rw [kSp_n hp]; exact hs1⟩)
  · exact absurd h1 (by decide)

set_option maxRecDepth 20000 in
set_option maxHeartbeats 4000000 in
theorem qX12_bodyFrom_3_3 {w : KW} {l : Launch} {u : KMem} (hu : kWd u) {g : Nat → Int32} (eg : u.2.1 414 = g) {K e : Nat} (hK : K < 5) (he : e < 40) {f : Nat} (hI : ∀ (fr act : Nat) (x : Int32) (v : KMem) (s : kVS), fr < 5 → act < 4 → kFu K f fr act = true → kVM u K e s v → KC w l mX12_bodyFrom (3 * f + 2) 0 0 [.ref 413, .int (nI fr), .int (nI act), .int x] v (fun r z => r = some (.int (kSp K (g (1128 + 5 * e + 3)) (nI e) f fr act x s).1) ∧ kVM u K e (kSp K (g (1128 + 5 * e + 3)) (nI e) f fr act x s).2 z)) (x : Int32) {v : KMem} {s : kVS} (hs : kVM u K e s v) (hfu : kFu K (f + 1) 3 3 = true) : KC w l mX12_bodyFrom (3 * (f + 1) + 2) 0 0 [.ref 413, .int 3, .int 3, .int x] v (fun r z => r = some (.int (kSp K (g (1128 + 5 * e + 3)) (nI e) (f + 1) 3 3 x s).1) ∧ kVM u K e (kSp K (g (1128 + 5 * e + 3)) (nI e) (f + 1) 3 3 x s).2 z) := by
  have hv := hs.1.wd hu
  refine KC.of (ls := [_, _, _, _, _]) rfl rfl (Nat.le_of_ble_eq_true rfl) ?_
  refine kv_iload_n dX12_bodyFrom_0 rfl ?_
  refine kv_istore (ls2 := [_, _, _, _, _]) dX12_bodyFrom_1 rfl rfl rfl rfl ?_
  refine kv_iload dX12_bodyFrom_3 rfl ?_
  refine kv_iload_n dX12_bodyFrom_5 rfl ?_
  refine kw_Si [_, _] mX12_hasOwn dX12_bodyFrom_6 lX12_371 wX12_hasOwn rfl rfl rfl (qX12_hasOwn_3_3 hv) (by omega) ?_
  refine kv_if_ne dX12_bodyFrom_9 22 (by decide) (fun h1 => ?_) (fun h1 => ?_)
  · exact absurd h1 (by decide)
  · refine kv_iload dX12_bodyFrom_12 rfl ?_
    refine kw_Si [_] mX12_above dX12_bodyFrom_14 lX12_304 wX12_above rfl rfl rfl (qX12_above (by exact hv) _) (by omega) ?_
    rw [show kAbove 3 = 0 from rfl]
    refine kv_istore (ls2 := [_, _, _, _, _]) dX12_bodyFrom_17 rfl rfl rfl rfl ?_
    refine kv_goto dX12_bodyFrom_19 3 (by decide) ?_
    refine kv_iload dX12_bodyFrom_3 rfl ?_
    refine kv_iload_n dX12_bodyFrom_5 rfl ?_
    refine kw_Si [_, _] mX12_hasOwn dX12_bodyFrom_6 lX12_371 wX12_hasOwn rfl rfl rfl (qX12_hasOwn_0_3 hv) (by omega) ?_
    refine kv_if_ne dX12_bodyFrom_9 22 (by decide) (fun h2 => ?_) (fun h2 => ?_)
    · refine kv_aload_n dX12_bodyFrom_22 rfl ?_
      refine kw_gI dX12_bodyFrom_23 fX12_374 hv (by first | rfl | assumption) rfl rfl ?_
      rw [hs.2.2.2.2.1]
      refine kv_if_eq dX12_bodyFrom_26 33 (by decide) (fun h3 => ?_) (fun h3 => ?_)
      · have hp := h3
        refine kv_aload_n dX12_bodyFrom_33 rfl ?_
        refine kv_iload dX12_bodyFrom_34 rfl ?_
        refine kv_iload_n dX12_bodyFrom_36 rfl ?_
        refine kv_iload_n dX12_bodyFrom_37 rfl ?_
        refine kw_VQ [_, _, _] mX12_body dX12_bodyFrom_38 lX12_377 wX12_body kC12 hv rfl (by first | rfl | assumption) rfl rfl rfl (qX12_body_13 hu eg hK he hI x hs hp hfu) (by omega) (fun _ v1 q1 => ?_)
        obtain ⟨rfl, hs1⟩ := q1
        have hv1 := hs1.1.wd hu
        exact kv_iret dX12_bodyFrom_41 rfl (by first | exact ⟨by rw [kSp_y hp], by rw [kSp_y hp]; exact hs⟩ | exact ⟨by rw [kSp_n hp]; rfl, by rw [kSp_n hp]; exact hs1⟩)
      · have hp := h3
        refine kv_iconst dX12_bodyFrom_29 0 ki_0 ?_
        refine kv_goto dX12_bodyFrom_30 41 (by decide) ?_
        exact kv_iret dX12_bodyFrom_41 rfl (by first | exact ⟨by rw [kSp_y hp], by rw [kSp_y hp]; exact hs⟩ | exact ⟨by rw [kSp_n hp]; rfl, by rw [kSp_n hp]; exact hs1⟩)
    · exact absurd h2 (by decide)

set_option maxRecDepth 20000 in
set_option maxHeartbeats 4000000 in
theorem qX12_bodyFrom_4_0 {w : KW} {l : Launch} {u : KMem} (hu : kWd u) {g : Nat → Int32} (eg : u.2.1 414 = g) {K e : Nat} (hK : K < 5) (he : e < 40) {f : Nat} (hI : ∀ (fr act : Nat) (x : Int32) (v : KMem) (s : kVS), fr < 5 → act < 4 → kFu K f fr act = true → kVM u K e s v → KC w l mX12_bodyFrom (3 * f + 2) 0 0 [.ref 413, .int (nI fr), .int (nI act), .int x] v (fun r z => r = some (.int (kSp K (g (1128 + 5 * e + 3)) (nI e) f fr act x s).1) ∧ kVM u K e (kSp K (g (1128 + 5 * e + 3)) (nI e) f fr act x s).2 z)) (x : Int32) {v : KMem} {s : kVS} (hs : kVM u K e s v) (hfu : kFu K (f + 1) 4 0 = true) : KC w l mX12_bodyFrom (3 * (f + 1) + 2) 0 0 [.ref 413, .int 4, .int 0, .int x] v (fun r z => r = some (.int (kSp K (g (1128 + 5 * e + 3)) (nI e) (f + 1) 4 0 x s).1) ∧ kVM u K e (kSp K (g (1128 + 5 * e + 3)) (nI e) (f + 1) 4 0 x s).2 z) := by
  have hv := hs.1.wd hu
  refine KC.of (ls := [_, _, _, _, _]) rfl rfl (Nat.le_of_ble_eq_true rfl) ?_
  refine kv_iload_n dX12_bodyFrom_0 rfl ?_
  refine kv_istore (ls2 := [_, _, _, _, _]) dX12_bodyFrom_1 rfl rfl rfl rfl ?_
  refine kv_iload dX12_bodyFrom_3 rfl ?_
  refine kv_iload_n dX12_bodyFrom_5 rfl ?_
  refine kw_Si [_, _] mX12_hasOwn dX12_bodyFrom_6 lX12_371 wX12_hasOwn rfl rfl rfl (qX12_hasOwn_4_0 hv) (by omega) ?_
  refine kv_if_ne dX12_bodyFrom_9 22 (by decide) (fun h1 => ?_) (fun h1 => ?_)
  · exact absurd h1 (by decide)
  · refine kv_iload dX12_bodyFrom_12 rfl ?_
    refine kw_Si [_] mX12_above dX12_bodyFrom_14 lX12_304 wX12_above rfl rfl rfl (qX12_above (by exact hv) _) (by omega) ?_
    rw [show kAbove 4 = 3 from rfl]
    refine kv_istore (ls2 := [_, _, _, _, _]) dX12_bodyFrom_17 rfl rfl rfl rfl ?_
    refine kv_goto dX12_bodyFrom_19 3 (by decide) ?_
    refine kv_iload dX12_bodyFrom_3 rfl ?_
    refine kv_iload_n dX12_bodyFrom_5 rfl ?_
    refine kw_Si [_, _] mX12_hasOwn dX12_bodyFrom_6 lX12_371 wX12_hasOwn rfl rfl rfl (qX12_hasOwn_3_0 hv) (by omega) ?_
    refine kv_if_ne dX12_bodyFrom_9 22 (by decide) (fun h2 => ?_) (fun h2 => ?_)
    · refine kv_aload_n dX12_bodyFrom_22 rfl ?_
      refine kw_gI dX12_bodyFrom_23 fX12_374 hv (by first | rfl | assumption) rfl rfl ?_
      rw [hs.2.2.2.2.1]
      refine kv_if_eq dX12_bodyFrom_26 33 (by decide) (fun h3 => ?_) (fun h3 => ?_)
      · have hp := h3
        refine kv_aload_n dX12_bodyFrom_33 rfl ?_
        refine kv_iload dX12_bodyFrom_34 rfl ?_
        refine kv_iload_n dX12_bodyFrom_36 rfl ?_
        refine kv_iload_n dX12_bodyFrom_37 rfl ?_
        refine kw_VQ [_, _, _] mX12_body dX12_bodyFrom_38 lX12_377 wX12_body kC12 hv rfl (by first | rfl | assumption) rfl rfl rfl (qX12_body_40 hu eg hK he hI x hs hp hfu) (by omega) (fun _ v1 q1 => ?_)
        obtain ⟨rfl, hs1⟩ := q1
        have hv1 := hs1.1.wd hu
        exact kv_iret dX12_bodyFrom_41 rfl (by first | exact ⟨by rw [kSp_y hp], by rw [kSp_y hp]; exact hs⟩ | exact ⟨by rw [kSp_n hp]; rfl, by rw [kSp_n hp]; exact hs1⟩)
      · have hp := h3
        refine kv_iconst dX12_bodyFrom_29 0 ki_0 ?_
        refine kv_goto dX12_bodyFrom_30 41 (by decide) ?_
        exact kv_iret dX12_bodyFrom_41 rfl (by first | exact ⟨by rw [kSp_y hp], by rw [kSp_y hp]; exact hs⟩ | exact ⟨by rw [kSp_n hp]; rfl, by rw [kSp_n hp]; exact hs1⟩)
    · exact absurd h2 (by decide)

set_option maxRecDepth 20000 in
set_option maxHeartbeats 4000000 in
theorem qX12_bodyFrom_4_1 {w : KW} {l : Launch} {u : KMem} (hu : kWd u) {g : Nat → Int32} (eg : u.2.1 414 = g) {K e : Nat} (hK : K < 5) (he : e < 40) {f : Nat} (hI : ∀ (fr act : Nat) (x : Int32) (v : KMem) (s : kVS), fr < 5 → act < 4 → kFu K f fr act = true → kVM u K e s v → KC w l mX12_bodyFrom (3 * f + 2) 0 0 [.ref 413, .int (nI fr), .int (nI act), .int x] v (fun r z => r = some (.int (kSp K (g (1128 + 5 * e + 3)) (nI e) f fr act x s).1) ∧ kVM u K e (kSp K (g (1128 + 5 * e + 3)) (nI e) f fr act x s).2 z)) (x : Int32) {v : KMem} {s : kVS} (hs : kVM u K e s v) (hfu : kFu K (f + 1) 4 1 = true) : KC w l mX12_bodyFrom (3 * (f + 1) + 2) 0 0 [.ref 413, .int 4, .int 1, .int x] v (fun r z => r = some (.int (kSp K (g (1128 + 5 * e + 3)) (nI e) (f + 1) 4 1 x s).1) ∧ kVM u K e (kSp K (g (1128 + 5 * e + 3)) (nI e) (f + 1) 4 1 x s).2 z) := by
  have hv := hs.1.wd hu
  refine KC.of (ls := [_, _, _, _, _]) rfl rfl (Nat.le_of_ble_eq_true rfl) ?_
  refine kv_iload_n dX12_bodyFrom_0 rfl ?_
  refine kv_istore (ls2 := [_, _, _, _, _]) dX12_bodyFrom_1 rfl rfl rfl rfl ?_
  refine kv_iload dX12_bodyFrom_3 rfl ?_
  refine kv_iload_n dX12_bodyFrom_5 rfl ?_
  refine kw_Si [_, _] mX12_hasOwn dX12_bodyFrom_6 lX12_371 wX12_hasOwn rfl rfl rfl (qX12_hasOwn_4_1 hv) (by omega) ?_
  refine kv_if_ne dX12_bodyFrom_9 22 (by decide) (fun h1 => ?_) (fun h1 => ?_)
  · refine kv_aload_n dX12_bodyFrom_22 rfl ?_
    refine kw_gI dX12_bodyFrom_23 fX12_374 hv (by first | rfl | assumption) rfl rfl ?_
    rw [hs.2.2.2.2.1]
    refine kv_if_eq dX12_bodyFrom_26 33 (by decide) (fun h2 => ?_) (fun h2 => ?_)
    · have hp := h2
      refine kv_aload_n dX12_bodyFrom_33 rfl ?_
      refine kv_iload dX12_bodyFrom_34 rfl ?_
      refine kv_iload_n dX12_bodyFrom_36 rfl ?_
      refine kv_iload_n dX12_bodyFrom_37 rfl ?_
      refine kw_VQ [_, _, _] mX12_body dX12_bodyFrom_38 lX12_377 wX12_body kC12 hv rfl (by first | rfl | assumption) rfl rfl rfl (qX12_body_50 hu eg hK he hI x hs hp hfu) (by omega) (fun _ v1 q1 => ?_)
      obtain ⟨rfl, hs1⟩ := q1
      have hv1 := hs1.1.wd hu
      exact kv_iret dX12_bodyFrom_41 rfl (by first | exact ⟨by rw [kSp_y hp], by rw [kSp_y hp]; exact hs⟩ | exact ⟨by rw [kSp_n hp]; rfl, by rw [kSp_n hp]; exact hs1⟩)
    · have hp := h2
      refine kv_iconst dX12_bodyFrom_29 0 ki_0 ?_
      refine kv_goto dX12_bodyFrom_30 41 (by decide) ?_
      exact kv_iret dX12_bodyFrom_41 rfl (by first | exact ⟨by rw [kSp_y hp], by rw [kSp_y hp]; exact hs⟩ | exact ⟨by rw [kSp_n hp]; rfl, by rw [kSp_n hp]; exact hs1⟩)
  · exact absurd h1 (by decide)

set_option maxRecDepth 20000 in
set_option maxHeartbeats 4000000 in
theorem qX12_bodyFrom_4_2 {w : KW} {l : Launch} {u : KMem} (hu : kWd u) {g : Nat → Int32} (eg : u.2.1 414 = g) {K e : Nat} (hK : K < 5) (he : e < 40) {f : Nat} (hI : ∀ (fr act : Nat) (x : Int32) (v : KMem) (s : kVS), fr < 5 → act < 4 → kFu K f fr act = true → kVM u K e s v → KC w l mX12_bodyFrom (3 * f + 2) 0 0 [.ref 413, .int (nI fr), .int (nI act), .int x] v (fun r z => r = some (.int (kSp K (g (1128 + 5 * e + 3)) (nI e) f fr act x s).1) ∧ kVM u K e (kSp K (g (1128 + 5 * e + 3)) (nI e) f fr act x s).2 z)) (x : Int32) {v : KMem} {s : kVS} (hs : kVM u K e s v) (hfu : kFu K (f + 1) 4 2 = true) : KC w l mX12_bodyFrom (3 * (f + 1) + 2) 0 0 [.ref 413, .int 4, .int 2, .int x] v (fun r z => r = some (.int (kSp K (g (1128 + 5 * e + 3)) (nI e) (f + 1) 4 2 x s).1) ∧ kVM u K e (kSp K (g (1128 + 5 * e + 3)) (nI e) (f + 1) 4 2 x s).2 z) := by
  have hv := hs.1.wd hu
  refine KC.of (ls := [_, _, _, _, _]) rfl rfl (Nat.le_of_ble_eq_true rfl) ?_
  refine kv_iload_n dX12_bodyFrom_0 rfl ?_
  refine kv_istore (ls2 := [_, _, _, _, _]) dX12_bodyFrom_1 rfl rfl rfl rfl ?_
  refine kv_iload dX12_bodyFrom_3 rfl ?_
  refine kv_iload_n dX12_bodyFrom_5 rfl ?_
  refine kw_Si [_, _] mX12_hasOwn dX12_bodyFrom_6 lX12_371 wX12_hasOwn rfl rfl rfl (qX12_hasOwn_4_2 hv) (by omega) ?_
  refine kv_if_ne dX12_bodyFrom_9 22 (by decide) (fun h1 => ?_) (fun h1 => ?_)
  · refine kv_aload_n dX12_bodyFrom_22 rfl ?_
    refine kw_gI dX12_bodyFrom_23 fX12_374 hv (by first | rfl | assumption) rfl rfl ?_
    rw [hs.2.2.2.2.1]
    refine kv_if_eq dX12_bodyFrom_26 33 (by decide) (fun h2 => ?_) (fun h2 => ?_)
    · have hp := h2
      refine kv_aload_n dX12_bodyFrom_33 rfl ?_
      refine kv_iload dX12_bodyFrom_34 rfl ?_
      refine kv_iload_n dX12_bodyFrom_36 rfl ?_
      refine kv_iload_n dX12_bodyFrom_37 rfl ?_
      refine kw_VQ [_, _, _] mX12_body dX12_bodyFrom_38 lX12_377 wX12_body kC12 hv rfl (by first | rfl | assumption) rfl rfl rfl (qX12_body_51 hu eg hK he hI x hs hp hfu) (by omega) (fun _ v1 q1 => ?_)
      obtain ⟨rfl, hs1⟩ := q1
      have hv1 := hs1.1.wd hu
      exact kv_iret dX12_bodyFrom_41 rfl (by first | exact ⟨by rw [kSp_y hp], by rw [kSp_y hp]; exact hs⟩ | exact ⟨by rw [kSp_n hp]; rfl, by rw [kSp_n hp]; exact hs1⟩)
    · have hp := h2
      refine kv_iconst dX12_bodyFrom_29 0 ki_0 ?_
      refine kv_goto dX12_bodyFrom_30 41 (by decide) ?_
      exact kv_iret dX12_bodyFrom_41 rfl (by first | exact ⟨by rw [kSp_y hp], by rw [kSp_y hp]; exact hs⟩ | exact ⟨by rw [kSp_n hp]; rfl, by rw [kSp_n hp]; exact hs1⟩)
  · exact absurd h1 (by decide)

set_option maxRecDepth 20000 in
set_option maxHeartbeats 4000000 in
theorem qX12_bodyFrom_4_3 {w : KW} {l : Launch} {u : KMem} (hu : kWd u) {g : Nat → Int32} (eg : u.2.1 414 = g) {K e : Nat} (hK : K < 5) (he : e < 40) {f : Nat} (hI : ∀ (fr act : Nat) (x : Int32) (v : KMem) (s : kVS), fr < 5 → act < 4 → kFu K f fr act = true → kVM u K e s v → KC w l mX12_bodyFrom (3 * f + 2) 0 0 [.ref 413, .int (nI fr), .int (nI act), .int x] v (fun r z => r = some (.int (kSp K (g (1128 + 5 * e + 3)) (nI e) f fr act x s).1) ∧ kVM u K e (kSp K (g (1128 + 5 * e + 3)) (nI e) f fr act x s).2 z)) (x : Int32) {v : KMem} {s : kVS} (hs : kVM u K e s v) (hfu : kFu K (f + 1) 4 3 = true) : KC w l mX12_bodyFrom (3 * (f + 1) + 2) 0 0 [.ref 413, .int 4, .int 3, .int x] v (fun r z => r = some (.int (kSp K (g (1128 + 5 * e + 3)) (nI e) (f + 1) 4 3 x s).1) ∧ kVM u K e (kSp K (g (1128 + 5 * e + 3)) (nI e) (f + 1) 4 3 x s).2 z) := by
  have hv := hs.1.wd hu
  refine KC.of (ls := [_, _, _, _, _]) rfl rfl (Nat.le_of_ble_eq_true rfl) ?_
  refine kv_iload_n dX12_bodyFrom_0 rfl ?_
  refine kv_istore (ls2 := [_, _, _, _, _]) dX12_bodyFrom_1 rfl rfl rfl rfl ?_
  refine kv_iload dX12_bodyFrom_3 rfl ?_
  refine kv_iload_n dX12_bodyFrom_5 rfl ?_
  refine kw_Si [_, _] mX12_hasOwn dX12_bodyFrom_6 lX12_371 wX12_hasOwn rfl rfl rfl (qX12_hasOwn_4_3 hv) (by omega) ?_
  refine kv_if_ne dX12_bodyFrom_9 22 (by decide) (fun h1 => ?_) (fun h1 => ?_)
  · refine kv_aload_n dX12_bodyFrom_22 rfl ?_
    refine kw_gI dX12_bodyFrom_23 fX12_374 hv (by first | rfl | assumption) rfl rfl ?_
    rw [hs.2.2.2.2.1]
    refine kv_if_eq dX12_bodyFrom_26 33 (by decide) (fun h2 => ?_) (fun h2 => ?_)
    · have hp := h2
      refine kv_aload_n dX12_bodyFrom_33 rfl ?_
      refine kv_iload dX12_bodyFrom_34 rfl ?_
      refine kv_iload_n dX12_bodyFrom_36 rfl ?_
      refine kv_iload_n dX12_bodyFrom_37 rfl ?_
      refine kw_VQ [_, _, _] mX12_body dX12_bodyFrom_38 lX12_377 wX12_body kC12 hv rfl (by first | rfl | assumption) rfl rfl rfl (qX12_body_52 hu eg hK he hI x hs hp hfu) (by omega) (fun _ v1 q1 => ?_)
      obtain ⟨rfl, hs1⟩ := q1
      have hv1 := hs1.1.wd hu
      exact kv_iret dX12_bodyFrom_41 rfl (by first | exact ⟨by rw [kSp_y hp], by rw [kSp_y hp]; exact hs⟩ | exact ⟨by rw [kSp_n hp]; rfl, by rw [kSp_n hp]; exact hs1⟩)
    · have hp := h2
      refine kv_iconst dX12_bodyFrom_29 0 ki_0 ?_
      refine kv_goto dX12_bodyFrom_30 41 (by decide) ?_
      exact kv_iret dX12_bodyFrom_41 rfl (by first | exact ⟨by rw [kSp_y hp], by rw [kSp_y hp]; exact hs⟩ | exact ⟨by rw [kSp_n hp]; rfl, by rw [kSp_n hp]; exact hs1⟩)
  · exact absurd h1 (by decide)

theorem qX12_bodyFrom {w : KW} {l : Launch} {u : KMem} (hu : kWd u) {g : Nat → Int32} (eg : u.2.1 414 = g) {K e : Nat} (hK : K < 5) (he : e < 40) : ∀ (f fr act : Nat) (x : Int32) (v : KMem) (s : kVS), fr < 5 → act < 4 → kFu K f fr act = true → kVM u K e s v → KC w l mX12_bodyFrom (3 * f + 2) 0 0 [.ref 413, .int (nI fr), .int (nI act), .int x] v (fun r z => r = some (.int (kSp K (g (1128 + 5 * e + 3)) (nI e) f fr act x s).1) ∧ kVM u K e (kSp K (g (1128 + 5 * e + 3)) (nI e) f fr act x s).2 z)
  | 0, _, _, _, _, _, _, _, h0, _ => absurd h0 (by unfold kFu; decide)
  | f + 1, fr, act, x, v, s, h1, h2, h3, h4 => by
    rcases (show fr = 0 ∨ fr = 1 ∨ fr = 2 ∨ fr = 3 ∨ fr = 4 by omega) with rfl | rfl | rfl | rfl | rfl <;> rcases (show act = 0 ∨ act = 1 ∨ act = 2 ∨ act = 3 by omega) with rfl | rfl | rfl | rfl
    · exact qX12_bodyFrom_0_0 hu eg hK he (qX12_bodyFrom hu eg hK he f) x h4 h3
    · exact qX12_bodyFrom_0_1 hu eg hK he (qX12_bodyFrom hu eg hK he f) x h4 h3
    · exact qX12_bodyFrom_0_2 hu eg hK he (qX12_bodyFrom hu eg hK he f) x h4 h3
    · exact qX12_bodyFrom_0_3 hu eg hK he (qX12_bodyFrom hu eg hK he f) x h4 h3
    · exact qX12_bodyFrom_1_0 hu eg hK he (qX12_bodyFrom hu eg hK he f) x h4 h3
    · exact qX12_bodyFrom_1_1 hu eg hK he (qX12_bodyFrom hu eg hK he f) x h4 h3
    · exact qX12_bodyFrom_1_2 hu eg hK he (qX12_bodyFrom hu eg hK he f) x h4 h3
    · exact qX12_bodyFrom_1_3 hu eg hK he (qX12_bodyFrom hu eg hK he f) x h4 h3
    · exact qX12_bodyFrom_2_0 hu eg hK he (qX12_bodyFrom hu eg hK he f) x h4 h3
    · exact qX12_bodyFrom_2_1 hu eg hK he (qX12_bodyFrom hu eg hK he f) x h4 h3
    · exact qX12_bodyFrom_2_2 hu eg hK he (qX12_bodyFrom hu eg hK he f) x h4 h3
    · exact qX12_bodyFrom_2_3 hu eg hK he (qX12_bodyFrom hu eg hK he f) x h4 h3
    · exact qX12_bodyFrom_3_0 hu eg hK he (qX12_bodyFrom hu eg hK he f) x h4 h3
    · exact qX12_bodyFrom_3_1 hu eg hK he (qX12_bodyFrom hu eg hK he f) x h4 h3
    · exact qX12_bodyFrom_3_2 hu eg hK he (qX12_bodyFrom hu eg hK he f) x h4 h3
    · exact qX12_bodyFrom_3_3 hu eg hK he (qX12_bodyFrom hu eg hK he f) x h4 h3
    · exact qX12_bodyFrom_4_0 hu eg hK he (qX12_bodyFrom hu eg hK he f) x h4 h3
    · exact qX12_bodyFrom_4_1 hu eg hK he (qX12_bodyFrom hu eg hK he f) x h4 h3
    · exact qX12_bodyFrom_4_2 hu eg hK he (qX12_bodyFrom hu eg hK he f) x h4 h3
    · exact qX12_bodyFrom_4_3 hu eg hK he (qX12_bodyFrom hu eg hK he f) x h4 h3
