/-! THE SMALL CONSTRUCTORS -/
set_option maxRecDepth 20000 in
set_option maxHeartbeats 4000000 in
theorem qX0_init {w : KW} {l : Launch} {u : KMem} {a : Nat} (hn : u.1 = a + 1) (h0 : kv_sh a = (0, 6)) (h1 : kv_sh (a + 1) = (20, 3)) (hlt : a + 1 + 1 ≤ 433)  : KC w l mX0_init 1 1 3 [.ref a] u (kq none (kv_sr (kv_al u) a 5 (some (u.1)))) := by
  refine KC.of (ls := [_]) rfl rfl (Nat.le_of_ble_eq_true rfl) ?_
  refine kv_aload_n dX0_init_0 rfl ?_
  refine kv_objI dX0_init_1 lX0_3 w_obj rfl (by omega) ?_
  refine kv_aload_n dX0_init_4 rfl ?_
  refine kv_iconst dX0_init_5 3 ki_3 ?_
  refine kv_newI dX0_init_6 w_row_int (show kv_sh (u.1) = (20, 3) from (by rw [hn]; exact h1)) (show u.1 < 433 by omega) (show (3 : Int32) = nI 3 from rfl) rfl (by decide) (by decide) ?_
  refine kv_putR 6 dX0_init_8 fX0_9 (fun _ => ⟨rfl, rfl⟩) (show a < u.1 + 1 by omega) h0 rfl rfl (fun _ => rfl) (fun _ => rfl) ?_
  exact kv_vret dX0_init_11 rfl ⟨rfl, rfl⟩

set_option maxRecDepth 20000 in
set_option maxHeartbeats 4000000 in
theorem qX1_init {w : KW} {l : Launch} {u : KMem} {a : Nat} (hn : u.1 = a + 1) (h0 : kv_sh a = (1, 5)) (h1 : kv_sh (a + 1) = (20, 2)) (h2 : kv_sh (a + 2) = (20, 2)) (hlt : a + 1 + 2 ≤ 433)  : KC w l mX1_init 1 2 4 [.ref a] u (kq none (kv_sr (kv_al (kv_sr (kv_al u) a 0 (some (u.1)))) a 1 (some (u.1 + 1)))) := by
  refine KC.of (ls := [_]) rfl rfl (Nat.le_of_ble_eq_true rfl) ?_
  refine kv_aload_n dX1_init_0 rfl ?_
  refine kv_objI dX1_init_1 lX1_3 w_obj rfl (by omega) ?_
  refine kv_aload_n dX1_init_4 rfl ?_
  refine kv_iconst dX1_init_5 2 ki_2 ?_
  refine kv_newI dX1_init_6 w_row_int (show kv_sh (u.1) = (20, 2) from (by rw [hn]; exact h1)) (show u.1 < 433 by omega) (show (2 : Int32) = nI 2 from rfl) rfl (by decide) (by decide) ?_
  refine kv_putR 5 dX1_init_8 fX1_9 (fun _ => ⟨rfl, rfl⟩) (show a < u.1 + 1 by omega) h0 rfl rfl (fun _ => rfl) (fun _ => rfl) ?_
  refine kv_aload_n dX1_init_11 rfl ?_
  refine kv_iconst dX1_init_12 2 ki_2 ?_
  refine kv_newI dX1_init_13 w_row_int (show kv_sh (u.1 + 1) = (20, 2) from (by rw [hn]; exact h2)) (show u.1 + 1 < 433 by omega) (show (2 : Int32) = nI 2 from rfl) rfl (by decide) (by decide) ?_
  refine kv_putR 5 dX1_init_15 fX1_15 (fun _ => ⟨rfl, rfl⟩) (show a < u.1 + 2 by omega) h0 rfl rfl (fun _ => rfl) (fun _ => rfl) ?_
  exact kv_vret dX1_init_18 rfl ⟨rfl, rfl⟩

set_option maxRecDepth 20000 in
set_option maxHeartbeats 4000000 in
theorem qX2_init {w : KW} {l : Launch} {u : KMem} {a : Nat} (hn : u.1 = a + 1) (h0 : kv_sh a = (2, 6))  (hlt : a + 1 + 0 ≤ 433)  : KC w l mX2_init 1 0 0 [.ref a] u (kq none u) := by
  refine KC.of (ls := [_]) rfl rfl (Nat.le_of_ble_eq_true rfl) ?_
  refine kv_aload_n dX2_init_0 rfl ?_
  refine kv_objI dX2_init_1 lX2_1 w_obj rfl (by omega) ?_
  exact kv_vret dX2_init_4 rfl ⟨rfl, rfl⟩

set_option maxRecDepth 20000 in
set_option maxHeartbeats 4000000 in
theorem qX9_init {w : KW} {l : Launch} {u : KMem} {a : Nat} (hn : u.1 = a + 1) (h0 : kv_sh a = (9, 4)) (h1 : kv_sh (a + 1) = (20, 60)) (hlt : a + 1 + 1 ≤ 433)  : KC w l mX9_init 1 1 60 [.ref a] u (kq none (kv_sr (kv_al u) a 0 (some (u.1)))) := by
  refine KC.of (ls := [_]) rfl rfl (Nat.le_of_ble_eq_true rfl) ?_
  refine kv_aload_n dX9_init_0 rfl ?_
  refine kv_objI dX9_init_1 lX9_3 w_obj rfl (by omega) ?_
  refine kv_aload_n dX9_init_4 rfl ?_
  refine kv_bipush dX9_init_5 60 kb_60 ?_
  refine kv_newI dX9_init_7 w_row_int (show kv_sh (u.1) = (20, 60) from (by rw [hn]; exact h1)) (show u.1 < 433 by omega) (show (60 : Int32) = nI 60 from rfl) rfl (by decide) (by decide) ?_
  refine kv_putR 4 dX9_init_9 fX9_9 (fun _ => ⟨rfl, rfl⟩) (show a < u.1 + 1 by omega) h0 rfl rfl (fun _ => rfl) (fun _ => rfl) ?_
  exact kv_vret dX9_init_12 rfl ⟨rfl, rfl⟩

set_option maxRecDepth 20000 in
set_option maxHeartbeats 4000000 in
theorem qX3_init {w : KW} {l : Launch} {u : KMem} {a : Nat} (hn : u.1 = a + 1) (h0 : kv_sh a = (3, 8)) (h1 : kv_sh (a + 1) = (20, 4)) (h2 : kv_sh (a + 2) = (20, 60)) (hlt : a + 1 + 2 ≤ 433) (b : Nat) : KC w l mX3_init 1 2 64 [.ref a, .ref b] u (kq none (kv_sr (kv_sr (kv_al (kv_sr (kv_al u) a 1 (some (u.1)))) a 2 (some (u.1 + 1))) a 0 (some (b)))) := by
  refine KC.of (ls := [_, _]) rfl rfl (Nat.le_of_ble_eq_true rfl) ?_
  refine kv_aload_n dX3_init_0 rfl ?_
  refine kv_objI dX3_init_1 lX3_3 w_obj rfl (by omega) ?_
  refine kv_aload_n dX3_init_4 rfl ?_
  refine kv_iconst dX3_init_5 4 ki_4 ?_
  refine kv_newI dX3_init_6 w_row_int (show kv_sh (u.1) = (20, 4) from (by rw [hn]; exact h1)) (show u.1 < 433 by omega) (show (4 : Int32) = nI 4 from rfl) rfl (by decide) (by decide) ?_
  refine kv_putR 8 dX3_init_8 fX3_9 (fun _ => ⟨rfl, rfl⟩) (show a < u.1 + 1 by omega) h0 rfl rfl (fun _ => rfl) (fun _ => rfl) ?_
  refine kv_aload_n dX3_init_11 rfl ?_
  refine kv_bipush dX3_init_12 60 kb_60 ?_
  refine kv_newI dX3_init_14 w_row_int (show kv_sh (u.1 + 1) = (20, 60) from (by rw [hn]; exact h2)) (show u.1 + 1 < 433 by omega) (show (60 : Int32) = nI 60 from rfl) rfl (by decide) (by decide) ?_
  refine kv_putR 8 dX3_init_16 fX3_15 (fun _ => ⟨rfl, rfl⟩) (show a < u.1 + 2 by omega) h0 rfl rfl (fun _ => rfl) (fun _ => rfl) ?_
  refine kv_aload_n dX3_init_19 rfl ?_
  refine kv_aload_n dX3_init_20 rfl ?_
  refine kv_putR 8 dX3_init_21 fX3_18 (fun _ => ⟨rfl, rfl⟩) (show a < u.1 + 2 by omega) h0 rfl rfl (fun _ => rfl) (fun _ => rfl) ?_
  exact kv_vret dX3_init_24 rfl ⟨rfl, rfl⟩

set_option maxRecDepth 20000 in
set_option maxHeartbeats 4000000 in
theorem qX4_init {w : KW} {l : Launch} {u : KMem} {a : Nat} (hn : u.1 = a + 1) (h0 : kv_sh a = (4, 7)) (h1 : kv_sh (a + 1) = (21, 11)) (h2 : kv_sh (a + 2) = (21, 11)) (h3 : kv_sh (a + 3) = (21, 2048)) (h4 : kv_sh (a + 4) = (20, 2048)) (hlt : a + 1 + 4 ≤ 433) (b : Nat) (c : Nat) : KC w l mX4_init 1 4 4118 [.ref a, .ref b, .ref c] u (kq none (kv_sr (kv_sr (kv_sr (kv_al (kv_sr (kv_al (kv_sr (kv_al (kv_sr (kv_al u) a 2 (some (u.1)))) a 4 (some (u.1 + 1)))) a 5 (some (u.1 + 2)))) a 6 (some (u.1 + 3))) a 0 (some (b))) a 1 (some (c)))) := by
  refine KC.of (ls := [_, _, _]) rfl rfl (Nat.le_of_ble_eq_true rfl) ?_
  refine kv_aload_n dX4_init_0 rfl ?_
  refine kv_objI dX4_init_1 lX4_3 w_obj rfl (by omega) ?_
  refine kv_aload_n dX4_init_4 rfl ?_
  refine kv_bipush dX4_init_5 11 kb_11 ?_
  refine kv_newL dX4_init_7 w_row_long (show kv_sh (u.1) = (21, 11) from (by rw [hn]; exact h1)) (show u.1 < 433 by omega) (show (11 : Int32) = nI 11 from rfl) rfl (by decide) (by decide) ?_
  refine kv_putR 7 dX4_init_9 fX4_9 (fun _ => ⟨rfl, rfl⟩) (show a < u.1 + 1 by omega) h0 rfl rfl (fun _ => rfl) (fun _ => rfl) ?_
  refine kv_aload_n dX4_init_12 rfl ?_
  refine kv_bipush dX4_init_13 11 kb_11 ?_
  refine kv_newL dX4_init_15 w_row_long (show kv_sh (u.1 + 1) = (21, 11) from (by rw [hn]; exact h2)) (show u.1 + 1 < 433 by omega) (show (11 : Int32) = nI 11 from rfl) rfl (by decide) (by decide) ?_
  refine kv_putR 7 dX4_init_17 fX4_15 (fun _ => ⟨rfl, rfl⟩) (show a < u.1 + 2 by omega) h0 rfl rfl (fun _ => rfl) (fun _ => rfl) ?_
  refine kv_aload_n dX4_init_20 rfl ?_
  refine kv_sipush dX4_init_21 2048 kz_2048 ?_
  refine kv_newL dX4_init_24 w_row_long (show kv_sh (u.1 + 2) = (21, 2048) from (by rw [hn]; exact h3)) (show u.1 + 2 < 433 by omega) (show (2048 : Int32) = nI 2048 from rfl) rfl (by decide) (by decide) ?_
  refine kv_putR 7 dX4_init_26 fX4_18 (fun _ => ⟨rfl, rfl⟩) (show a < u.1 + 3 by omega) h0 rfl rfl (fun _ => rfl) (fun _ => rfl) ?_
  refine kv_aload_n dX4_init_29 rfl ?_
  refine kv_sipush dX4_init_30 2048 kz_2048 ?_
  refine kv_newI dX4_init_33 w_row_int (show kv_sh (u.1 + 3) = (20, 2048) from (by rw [hn]; exact h4)) (show u.1 + 3 < 433 by omega) (show (2048 : Int32) = nI 2048 from rfl) rfl (by decide) (by decide) ?_
  refine kv_putR 7 dX4_init_35 fX4_21 (fun _ => ⟨rfl, rfl⟩) (show a < u.1 + 4 by omega) h0 rfl rfl (fun _ => rfl) (fun _ => rfl) ?_
  refine kv_aload_n dX4_init_38 rfl ?_
  refine kv_aload_n dX4_init_39 rfl ?_
  refine kv_putR 7 dX4_init_40 fX4_25 (fun _ => ⟨rfl, rfl⟩) (show a < u.1 + 4 by omega) h0 rfl rfl (fun _ => rfl) (fun _ => rfl) ?_
  refine kv_aload_n dX4_init_43 rfl ?_
  refine kv_aload_n dX4_init_44 rfl ?_
  refine kv_putR 7 dX4_init_45 fX4_29 (fun _ => ⟨rfl, rfl⟩) (show a < u.1 + 4 by omega) h0 rfl rfl (fun _ => rfl) (fun _ => rfl) ?_
  exact kv_vret dX4_init_48 rfl ⟨rfl, rfl⟩

set_option maxRecDepth 20000 in
set_option maxHeartbeats 4000000 in
theorem qX5_init {w : KW} {l : Launch} {u : KMem} {a : Nat} (hn : u.1 = a + 1) (h0 : kv_sh a = (5, 7))  (hlt : a + 1 + 0 ≤ 433)  : KC w l mX5_init 1 0 0 [.ref a] u (kq none u) := by
  refine KC.of (ls := [_]) rfl rfl (Nat.le_of_ble_eq_true rfl) ?_
  refine kv_aload_n dX5_init_0 rfl ?_
  refine kv_objI dX5_init_1 lX5_3 w_obj rfl (by omega) ?_
  exact kv_vret dX5_init_4 rfl ⟨rfl, rfl⟩

set_option maxRecDepth 20000 in
set_option maxHeartbeats 4000000 in
theorem qX6_init {w : KW} {l : Launch} {u : KMem} {a : Nat} (hn : u.1 = a + 1) (h0 : kv_sh a = (6, 4)) (h1 : kv_sh (a + 1) = (20, 24)) (h2 : kv_sh (a + 2) = (20, 384)) (hlt : a + 1 + 2 ≤ 433)  : KC w l mX6_init 1 2 408 [.ref a] u (kq none (kv_sr (kv_al (kv_sr (kv_al u) a 0 (some (u.1)))) a 3 (some (u.1 + 1)))) := by
  refine KC.of (ls := [_]) rfl rfl (Nat.le_of_ble_eq_true rfl) ?_
  refine kv_aload_n dX6_init_0 rfl ?_
  refine kv_objI dX6_init_1 lX6_3 w_obj rfl (by omega) ?_
  refine kv_aload_n dX6_init_4 rfl ?_
  refine kv_bipush dX6_init_5 24 kb_24 ?_
  refine kv_newI dX6_init_7 w_row_int (show kv_sh (u.1) = (20, 24) from (by rw [hn]; exact h1)) (show u.1 < 433 by omega) (show (24 : Int32) = nI 24 from rfl) rfl (by decide) (by decide) ?_
  refine kv_putR 4 dX6_init_9 fX6_9 (fun _ => ⟨rfl, rfl⟩) (show a < u.1 + 1 by omega) h0 rfl rfl (fun _ => rfl) (fun _ => rfl) ?_
  refine kv_aload_n dX6_init_12 rfl ?_
  refine kv_sipush dX6_init_13 384 kz_384 ?_
  refine kv_newI dX6_init_16 w_row_int (show kv_sh (u.1 + 1) = (20, 384) from (by rw [hn]; exact h2)) (show u.1 + 1 < 433 by omega) (show (384 : Int32) = nI 384 from rfl) rfl (by decide) (by decide) ?_
  refine kv_putR 4 dX6_init_18 fX6_15 (fun _ => ⟨rfl, rfl⟩) (show a < u.1 + 2 by omega) h0 rfl rfl (fun _ => rfl) (fun _ => rfl) ?_
  exact kv_vret dX6_init_21 rfl ⟨rfl, rfl⟩

set_option maxRecDepth 20000 in
set_option maxHeartbeats 4000000 in
theorem qX8_init {w : KW} {l : Launch} {u : KMem} {a : Nat} (hn : u.1 = a + 1) (h0 : kv_sh a = (8, 5)) (h1 : kv_sh (a + 1) = (20, 20)) (h2 : kv_sh (a + 2) = (20, 20)) (hlt : a + 1 + 2 ≤ 433) (b : Nat) : KC w l mX8_init 1 2 40 [.ref a, .ref b] u (kq none (kv_sr (kv_sr (kv_al (kv_sr (kv_al u) a 1 (some (u.1)))) a 2 (some (u.1 + 1))) a 0 (some (b)))) := by
  refine KC.of (ls := [_, _]) rfl rfl (Nat.le_of_ble_eq_true rfl) ?_
  refine kv_aload_n dX8_init_0 rfl ?_
  refine kv_objI dX8_init_1 lX8_3 w_obj rfl (by omega) ?_
  refine kv_aload_n dX8_init_4 rfl ?_
  refine kv_bipush dX8_init_5 20 kb_20 ?_
  refine kv_newI dX8_init_7 w_row_int (show kv_sh (u.1) = (20, 20) from (by rw [hn]; exact h1)) (show u.1 < 433 by omega) (show (20 : Int32) = nI 20 from rfl) rfl (by decide) (by decide) ?_
  refine kv_putR 5 dX8_init_9 fX8_9 (fun _ => ⟨rfl, rfl⟩) (show a < u.1 + 1 by omega) h0 rfl rfl (fun _ => rfl) (fun _ => rfl) ?_
  refine kv_aload_n dX8_init_12 rfl ?_
  refine kv_bipush dX8_init_13 20 kb_20 ?_
  refine kv_newI dX8_init_15 w_row_int (show kv_sh (u.1 + 1) = (20, 20) from (by rw [hn]; exact h2)) (show u.1 + 1 < 433 by omega) (show (20 : Int32) = nI 20 from rfl) rfl (by decide) (by decide) ?_
  refine kv_putR 5 dX8_init_17 fX8_15 (fun _ => ⟨rfl, rfl⟩) (show a < u.1 + 2 by omega) h0 rfl rfl (fun _ => rfl) (fun _ => rfl) ?_
  refine kv_aload_n dX8_init_20 rfl ?_
  refine kv_aload_n dX8_init_21 rfl ?_
  refine kv_putR 5 dX8_init_22 fX8_18 (fun _ => ⟨rfl, rfl⟩) (show a < u.1 + 2 by omega) h0 rfl rfl (fun _ => rfl) (fun _ => rfl) ?_
  exact kv_vret dX8_init_25 rfl ⟨rfl, rfl⟩

set_option maxRecDepth 20000 in
set_option maxHeartbeats 4000000 in
theorem qX10_init {w : KW} {l : Launch} {u : KMem} {a : Nat} (hn : u.1 = a + 1) (h0 : kv_sh a = (10, 6)) (h1 : kv_sh (a + 1) = (20, 30)) (hlt : a + 1 + 1 ≤ 433)  : KC w l mX10_init 1 1 30 [.ref a] u (kq none (kv_sr (kv_al u) a 0 (some (u.1)))) := by
  refine KC.of (ls := [_]) rfl rfl (Nat.le_of_ble_eq_true rfl) ?_
  refine kv_aload_n dX10_init_0 rfl ?_
  refine kv_objI dX10_init_1 lX10_3 w_obj rfl (by omega) ?_
  refine kv_aload_n dX10_init_4 rfl ?_
  refine kv_bipush dX10_init_5 30 kb_30 ?_
  refine kv_newI dX10_init_7 w_row_int (show kv_sh (u.1) = (20, 30) from (by rw [hn]; exact h1)) (show u.1 < 433 by omega) (show (30 : Int32) = nI 30 from rfl) rfl (by decide) (by decide) ?_
  refine kv_putR 6 dX10_init_9 fX10_9 (fun _ => ⟨rfl, rfl⟩) (show a < u.1 + 1 by omega) h0 rfl rfl (fun _ => rfl) (fun _ => rfl) ?_
  exact kv_vret dX10_init_12 rfl ⟨rfl, rfl⟩

