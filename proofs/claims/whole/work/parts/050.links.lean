theorem kv_t0 {x : Cond} (h : x ∈ k2_sels lw_privs) : x ∈ lw_tbl := List.mem_append_left _ h
theorem kv_t1 {x : Cond} (h : x ∈ tables_1_1) : x ∈ lw_tbl := List.mem_append_right _ (List.mem_append_left _ h)
theorem kv_t2 {x : Cond} (h : x ∈ tables_1_2) : x ∈ lw_tbl := List.mem_append_right _ (List.mem_append_right _ (List.mem_append_left _ h))
theorem kv_t3 {x : Cond} (h : x ∈ tables_1_3) : x ∈ lw_tbl := List.mem_append_right _ (List.mem_append_right _ (List.mem_append_right _ (List.mem_append_left _ h)))
theorem kv_t4 {x : Cond} (h : x ∈ tables_1_4) : x ∈ lw_tbl := List.mem_append_right _ (List.mem_append_right _ (List.mem_append_right _ (List.mem_append_right _ (List.mem_append_left _ h))))
theorem kv_t5 {x : Cond} (h : x ∈ tables_1_5) : x ∈ lw_tbl := List.mem_append_right _ (List.mem_append_right _ (List.mem_append_right _ (List.mem_append_right _ (List.mem_append_right _ (List.mem_append_left _ h)))))
theorem kv_t6 {x : Cond} (h : x ∈ tables_1_6) : x ∈ lw_tbl := List.mem_append_right _ (List.mem_append_right _ (List.mem_append_right _ (List.mem_append_right _ (List.mem_append_right _ (List.mem_append_right _ (List.mem_append_left _ h))))))
theorem kv_t7 {x : Cond} (h : x ∈ tables_1_7) : x ∈ lw_tbl := List.mem_append_right _ (List.mem_append_right _ (List.mem_append_right _ (List.mem_append_right _ (List.mem_append_right _ (List.mem_append_right _ (List.mem_append_right _ (h)))))))
theorem kU0 : ∀ k, k < 6 → u_lay RX0 TX0 k ∈ kv_tb := by
  intro k hk
  rcases (show k = 0 ∨ k = 1 ∨ k = 2 ∨ k = 3 ∨ k = 4 ∨ k = 5 by omega) with rfl | rfl | rfl | rfl | rfl | rfl
  · exact kv_in (kv_t1 (List.mem_of_getElem? (i := 74) (by decide +kernel))) rfl
  · exact kv_in (kv_t1 (List.mem_of_getElem? (i := 76) (by decide +kernel))) rfl
  · exact kv_in (kv_t1 (List.mem_of_getElem? (i := 78) (by decide +kernel))) rfl
  · exact kv_in (kv_t1 (List.mem_of_getElem? (i := 80) (by decide +kernel))) rfl
  · exact kv_in (kv_t1 (List.mem_of_getElem? (i := 82) (by decide +kernel))) rfl
  · exact kv_in (kv_t1 (List.mem_of_getElem? (i := 84) (by decide +kernel))) rfl
theorem kC0 : kv_CL 0 RX0 TX0 6 tyX0 := ⟨rfl, fun x h => by
  obtain ⟨k, hk, rfl⟩ := List.mem_map.mp h
  exact kU0 k (List.mem_range.mp hk), tyX0_ok, nmX0, by decide⟩
theorem kU1 : ∀ k, k < 5 → u_lay RX1 TX1 k ∈ kv_tb := by
  intro k hk
  rcases (show k = 0 ∨ k = 1 ∨ k = 2 ∨ k = 3 ∨ k = 4 by omega) with rfl | rfl | rfl | rfl | rfl
  · exact kv_in (kv_t1 (List.mem_of_getElem? (i := 111) (by decide +kernel))) rfl
  · exact kv_in (kv_t1 (List.mem_of_getElem? (i := 113) (by decide +kernel))) rfl
  · exact kv_in (kv_t1 (List.mem_of_getElem? (i := 115) (by decide +kernel))) rfl
  · exact kv_in (kv_t1 (List.mem_of_getElem? (i := 117) (by decide +kernel))) rfl
  · exact kv_in (kv_t1 (List.mem_of_getElem? (i := 119) (by decide +kernel))) rfl
theorem kC1 : kv_CL 1 RX1 TX1 5 tyX1 := ⟨rfl, fun x h => by
  obtain ⟨k, hk, rfl⟩ := List.mem_map.mp h
  exact kU1 k (List.mem_range.mp hk), tyX1_ok, nmX1, by decide⟩
theorem kU2 : ∀ k, k < 6 → u_lay RX2 TX2 k ∈ kv_tb := by
  intro k hk
  rcases (show k = 0 ∨ k = 1 ∨ k = 2 ∨ k = 3 ∨ k = 4 ∨ k = 5 by omega) with rfl | rfl | rfl | rfl | rfl | rfl
  · exact kv_in (kv_t1 (List.mem_of_getElem? (i := 172) (by decide +kernel))) rfl
  · exact kv_in (kv_t1 (List.mem_of_getElem? (i := 174) (by decide +kernel))) rfl
  · exact kv_in (kv_t1 (List.mem_of_getElem? (i := 176) (by decide +kernel))) rfl
  · exact kv_in (kv_t1 (List.mem_of_getElem? (i := 178) (by decide +kernel))) rfl
  · exact kv_in (kv_t1 (List.mem_of_getElem? (i := 180) (by decide +kernel))) rfl
  · exact kv_in (kv_t1 (List.mem_of_getElem? (i := 182) (by decide +kernel))) rfl
theorem kC2 : kv_CL 2 RX2 TX2 6 tyX2 := ⟨rfl, fun x h => by
  obtain ⟨k, hk, rfl⟩ := List.mem_map.mp h
  exact kU2 k (List.mem_range.mp hk), tyX2_ok, nmX2, by decide⟩
theorem kU3 : ∀ k, k < 8 → u_lay RX3 TX3 k ∈ kv_tb := by
  intro k hk
  rcases (show k = 0 ∨ k = 1 ∨ k = 2 ∨ k = 3 ∨ k = 4 ∨ k = 5 ∨ k = 6 ∨ k = 7 by omega) with rfl | rfl | rfl | rfl | rfl | rfl | rfl | rfl
  · exact kv_in (kv_t2 (List.mem_of_getElem? (i := 59) (by decide +kernel))) rfl
  · exact kv_in (kv_t2 (List.mem_of_getElem? (i := 61) (by decide +kernel))) rfl
  · exact kv_in (kv_t2 (List.mem_of_getElem? (i := 63) (by decide +kernel))) rfl
  · exact kv_in (kv_t2 (List.mem_of_getElem? (i := 65) (by decide +kernel))) rfl
  · exact kv_in (kv_t2 (List.mem_of_getElem? (i := 67) (by decide +kernel))) rfl
  · exact kv_in (kv_t2 (List.mem_of_getElem? (i := 69) (by decide +kernel))) rfl
  · exact kv_in (kv_t2 (List.mem_of_getElem? (i := 71) (by decide +kernel))) rfl
  · exact kv_in (kv_t2 (List.mem_of_getElem? (i := 73) (by decide +kernel))) rfl
theorem kC3 : kv_CL 3 RX3 TX3 8 tyX3 := ⟨rfl, fun x h => by
  obtain ⟨k, hk, rfl⟩ := List.mem_map.mp h
  exact kU3 k (List.mem_range.mp hk), tyX3_ok, nmX3, by decide⟩
theorem kU4 : ∀ k, k < 7 → u_lay RX4 TX4 k ∈ kv_tb := by
  intro k hk
  rcases (show k = 0 ∨ k = 1 ∨ k = 2 ∨ k = 3 ∨ k = 4 ∨ k = 5 ∨ k = 6 by omega) with rfl | rfl | rfl | rfl | rfl | rfl | rfl
  · exact kv_in (kv_t2 (List.mem_of_getElem? (i := 119) (by decide +kernel))) rfl
  · exact kv_in (kv_t2 (List.mem_of_getElem? (i := 121) (by decide +kernel))) rfl
  · exact kv_in (kv_t2 (List.mem_of_getElem? (i := 123) (by decide +kernel))) rfl
  · exact kv_in (kv_t2 (List.mem_of_getElem? (i := 125) (by decide +kernel))) rfl
  · exact kv_in (kv_t2 (List.mem_of_getElem? (i := 127) (by decide +kernel))) rfl
  · exact kv_in (kv_t2 (List.mem_of_getElem? (i := 129) (by decide +kernel))) rfl
  · exact kv_in (kv_t2 (List.mem_of_getElem? (i := 131) (by decide +kernel))) rfl
theorem kC4 : kv_CL 4 RX4 TX4 7 tyX4 := ⟨rfl, fun x h => by
  obtain ⟨k, hk, rfl⟩ := List.mem_map.mp h
  exact kU4 k (List.mem_range.mp hk), tyX4_ok, nmX4, by decide⟩
theorem kU5 : ∀ k, k < 7 → u_lay RX5 TX5 k ∈ kv_tb := by
  intro k hk
  rcases (show k = 0 ∨ k = 1 ∨ k = 2 ∨ k = 3 ∨ k = 4 ∨ k = 5 ∨ k = 6 by omega) with rfl | rfl | rfl | rfl | rfl | rfl | rfl
  · exact kv_in (kv_t2 (List.mem_of_getElem? (i := 89) (by decide +kernel))) rfl
  · exact kv_in (kv_t2 (List.mem_of_getElem? (i := 91) (by decide +kernel))) rfl
  · exact kv_in (kv_t2 (List.mem_of_getElem? (i := 93) (by decide +kernel))) rfl
  · exact kv_in (kv_t2 (List.mem_of_getElem? (i := 95) (by decide +kernel))) rfl
  · exact kv_in (kv_t2 (List.mem_of_getElem? (i := 97) (by decide +kernel))) rfl
  · exact kv_in (kv_t2 (List.mem_of_getElem? (i := 99) (by decide +kernel))) rfl
  · exact kv_in (kv_t2 (List.mem_of_getElem? (i := 101) (by decide +kernel))) rfl
theorem kC5 : kv_CL 5 RX5 TX5 7 tyX5 := ⟨rfl, fun x h => by
  obtain ⟨k, hk, rfl⟩ := List.mem_map.mp h
  exact kU5 k (List.mem_range.mp hk), tyX5_ok, nmX5, by decide⟩
theorem kU6 : ∀ k, k < 4 → u_lay RX6 TX6 k ∈ kv_tb := by
  intro k hk
  rcases (show k = 0 ∨ k = 1 ∨ k = 2 ∨ k = 3 by omega) with rfl | rfl | rfl | rfl
  · exact kv_in (kv_t2 (List.mem_of_getElem? (i := 199) (by decide +kernel))) rfl
  · exact kv_in (kv_t2 (List.mem_of_getElem? (i := 201) (by decide +kernel))) rfl
  · exact kv_in (kv_t2 (List.mem_of_getElem? (i := 203) (by decide +kernel))) rfl
  · exact kv_in (kv_t2 (List.mem_of_getElem? (i := 205) (by decide +kernel))) rfl
theorem kC6 : kv_CL 6 RX6 TX6 4 tyX6 := ⟨rfl, fun x h => by
  obtain ⟨k, hk, rfl⟩ := List.mem_map.mp h
  exact kU6 k (List.mem_range.mp hk), tyX6_ok, nmX6, by decide⟩
theorem kU7 : ∀ k, k < 19 → u_lay RX7 TX7 k ∈ kv_tb := by
  intro k hk
  rcases (show k = 0 ∨ k = 1 ∨ k = 2 ∨ k = 3 ∨ k = 4 ∨ k = 5 ∨ k = 6 ∨ k = 7 ∨ k = 8 ∨ k = 9 ∨ k = 10 ∨ k = 11 ∨ k = 12 ∨ k = 13 ∨ k = 14 ∨ k = 15 ∨ k = 16 ∨ k = 17 ∨ k = 18 by omega) with rfl | rfl | rfl | rfl | rfl | rfl | rfl | rfl | rfl | rfl | rfl | rfl | rfl | rfl | rfl | rfl | rfl | rfl | rfl
  · exact kv_in (kv_t2 (List.mem_of_getElem? (i := 1) (by decide +kernel))) rfl
  · exact kv_in (kv_t2 (List.mem_of_getElem? (i := 3) (by decide +kernel))) rfl
  · exact kv_in (kv_t2 (List.mem_of_getElem? (i := 5) (by decide +kernel))) rfl
  · exact kv_in (kv_t2 (List.mem_of_getElem? (i := 7) (by decide +kernel))) rfl
  · exact kv_in (kv_t2 (List.mem_of_getElem? (i := 9) (by decide +kernel))) rfl
  · exact kv_in (kv_t2 (List.mem_of_getElem? (i := 11) (by decide +kernel))) rfl
  · exact kv_in (kv_t2 (List.mem_of_getElem? (i := 13) (by decide +kernel))) rfl
  · exact kv_in (kv_t2 (List.mem_of_getElem? (i := 15) (by decide +kernel))) rfl
  · exact kv_in (kv_t2 (List.mem_of_getElem? (i := 17) (by decide +kernel))) rfl
  · exact kv_in (kv_t2 (List.mem_of_getElem? (i := 19) (by decide +kernel))) rfl
  · exact kv_in (kv_t2 (List.mem_of_getElem? (i := 21) (by decide +kernel))) rfl
  · exact kv_in (kv_t2 (List.mem_of_getElem? (i := 23) (by decide +kernel))) rfl
  · exact kv_in (kv_t2 (List.mem_of_getElem? (i := 25) (by decide +kernel))) rfl
  · exact kv_in (kv_t2 (List.mem_of_getElem? (i := 27) (by decide +kernel))) rfl
  · exact kv_in (kv_t2 (List.mem_of_getElem? (i := 29) (by decide +kernel))) rfl
  · exact kv_in (kv_t2 (List.mem_of_getElem? (i := 31) (by decide +kernel))) rfl
  · exact kv_in (kv_t2 (List.mem_of_getElem? (i := 33) (by decide +kernel))) rfl
  · exact kv_in (kv_t2 (List.mem_of_getElem? (i := 35) (by decide +kernel))) rfl
  · exact kv_in (kv_t2 (List.mem_of_getElem? (i := 37) (by decide +kernel))) rfl
theorem kC7 : kv_CL 7 RX7 TX7 19 tyX7 := ⟨rfl, fun x h => by
  obtain ⟨k, hk, rfl⟩ := List.mem_map.mp h
  exact kU7 k (List.mem_range.mp hk), tyX7_ok, nmX7, by decide⟩
theorem kU8 : ∀ k, k < 5 → u_lay RX8 TX8 k ∈ kv_tb := by
  intro k hk
  rcases (show k = 0 ∨ k = 1 ∨ k = 2 ∨ k = 3 ∨ k = 4 by omega) with rfl | rfl | rfl | rfl | rfl
  · exact kv_in (kv_t2 (List.mem_of_getElem? (i := 146) (by decide +kernel))) rfl
  · exact kv_in (kv_t2 (List.mem_of_getElem? (i := 148) (by decide +kernel))) rfl
  · exact kv_in (kv_t2 (List.mem_of_getElem? (i := 150) (by decide +kernel))) rfl
  · exact kv_in (kv_t2 (List.mem_of_getElem? (i := 152) (by decide +kernel))) rfl
  · exact kv_in (kv_t2 (List.mem_of_getElem? (i := 154) (by decide +kernel))) rfl
theorem kC8 : kv_CL 8 RX8 TX8 5 tyX8 := ⟨rfl, fun x h => by
  obtain ⟨k, hk, rfl⟩ := List.mem_map.mp h
  exact kU8 k (List.mem_range.mp hk), tyX8_ok, nmX8, by decide⟩
theorem kU9 : ∀ k, k < 4 → u_lay RX9 TX9 k ∈ kv_tb := by
  intro k hk
  rcases (show k = 0 ∨ k = 1 ∨ k = 2 ∨ k = 3 by omega) with rfl | rfl | rfl | rfl
  · exact kv_in (kv_t1 (List.mem_of_getElem? (i := 134) (by decide +kernel))) rfl
  · exact kv_in (kv_t1 (List.mem_of_getElem? (i := 136) (by decide +kernel))) rfl
  · exact kv_in (kv_t1 (List.mem_of_getElem? (i := 138) (by decide +kernel))) rfl
  · exact kv_in (kv_t1 (List.mem_of_getElem? (i := 140) (by decide +kernel))) rfl
theorem kC9 : kv_CL 9 RX9 TX9 4 tyX9 := ⟨rfl, fun x h => by
  obtain ⟨k, hk, rfl⟩ := List.mem_map.mp h
  exact kU9 k (List.mem_range.mp hk), tyX9_ok, nmX9, by decide⟩
theorem kU10 : ∀ k, k < 6 → u_lay RX10 TX10 k ∈ kv_tb := by
  intro k hk
  rcases (show k = 0 ∨ k = 1 ∨ k = 2 ∨ k = 3 ∨ k = 4 ∨ k = 5 by omega) with rfl | rfl | rfl | rfl | rfl | rfl
  · exact kv_in (kv_t2 (List.mem_of_getElem? (i := 172) (by decide +kernel))) rfl
  · exact kv_in (kv_t2 (List.mem_of_getElem? (i := 174) (by decide +kernel))) rfl
  · exact kv_in (kv_t2 (List.mem_of_getElem? (i := 176) (by decide +kernel))) rfl
  · exact kv_in (kv_t2 (List.mem_of_getElem? (i := 178) (by decide +kernel))) rfl
  · exact kv_in (kv_t2 (List.mem_of_getElem? (i := 180) (by decide +kernel))) rfl
  · exact kv_in (kv_t2 (List.mem_of_getElem? (i := 182) (by decide +kernel))) rfl
theorem kC10 : kv_CL 10 RX10 TX10 6 tyX10 := ⟨rfl, fun x h => by
  obtain ⟨k, hk, rfl⟩ := List.mem_map.mp h
  exact kU10 k (List.mem_range.mp hk), tyX10_ok, nmX10, by decide⟩
theorem kU11 : ∀ k, k < 10 → u_lay RX11 TX11 k ∈ kv_tb := by
  intro k hk
  rcases (show k = 0 ∨ k = 1 ∨ k = 2 ∨ k = 3 ∨ k = 4 ∨ k = 5 ∨ k = 6 ∨ k = 7 ∨ k = 8 ∨ k = 9 by omega) with rfl | rfl | rfl | rfl | rfl | rfl | rfl | rfl | rfl | rfl
  · exact kv_in (kv_t2 (List.mem_of_getElem? (i := 218) (by decide +kernel))) rfl
  · exact kv_in (kv_t2 (List.mem_of_getElem? (i := 220) (by decide +kernel))) rfl
  · exact kv_in (kv_t2 (List.mem_of_getElem? (i := 222) (by decide +kernel))) rfl
  · exact kv_in (kv_t2 (List.mem_of_getElem? (i := 224) (by decide +kernel))) rfl
  · exact kv_in (kv_t2 (List.mem_of_getElem? (i := 226) (by decide +kernel))) rfl
  · exact kv_in (kv_t2 (List.mem_of_getElem? (i := 228) (by decide +kernel))) rfl
  · exact kv_in (kv_t2 (List.mem_of_getElem? (i := 230) (by decide +kernel))) rfl
  · exact kv_in (kv_t2 (List.mem_of_getElem? (i := 232) (by decide +kernel))) rfl
  · exact kv_in (kv_t2 (List.mem_of_getElem? (i := 234) (by decide +kernel))) rfl
  · exact kv_in (kv_t2 (List.mem_of_getElem? (i := 236) (by decide +kernel))) rfl
theorem kC11 : kv_CL 11 RX11 TX11 10 tyX11 := ⟨rfl, fun x h => by
  obtain ⟨k, hk, rfl⟩ := List.mem_map.mp h
  exact kU11 k (List.mem_range.mp hk), tyX11_ok, nmX11, by decide⟩
theorem kU12 : ∀ k, k < 32 → u_lay RX12 TX12 k ∈ kv_tb := by
  intro k hk
  rcases (show k = 0 ∨ k = 1 ∨ k = 2 ∨ k = 3 ∨ k = 4 ∨ k = 5 ∨ k = 6 ∨ k = 7 ∨ k = 8 ∨ k = 9 ∨ k = 10 ∨ k = 11 ∨ k = 12 ∨ k = 13 ∨ k = 14 ∨ k = 15 ∨ k = 16 ∨ k = 17 ∨ k = 18 ∨ k = 19 ∨ k = 20 ∨ k = 21 ∨ k = 22 ∨ k = 23 ∨ k = 24 ∨ k = 25 ∨ k = 26 ∨ k = 27 ∨ k = 28 ∨ k = 29 ∨ k = 30 ∨ k = 31 by omega) with rfl | rfl | rfl | rfl | rfl | rfl | rfl | rfl | rfl | rfl | rfl | rfl | rfl | rfl | rfl | rfl | rfl | rfl | rfl | rfl | rfl | rfl | rfl | rfl | rfl | rfl | rfl | rfl | rfl | rfl | rfl | rfl
  · exact kv_in (kv_t5 (List.mem_of_getElem? (i := 128) (by decide +kernel))) rfl
  · exact kv_in (kv_t5 (List.mem_of_getElem? (i := 130) (by decide +kernel))) rfl
  · exact kv_in (kv_t5 (List.mem_of_getElem? (i := 132) (by decide +kernel))) rfl
  · exact kv_in (kv_t5 (List.mem_of_getElem? (i := 134) (by decide +kernel))) rfl
  · exact kv_in (kv_t5 (List.mem_of_getElem? (i := 136) (by decide +kernel))) rfl
  · exact kv_in (kv_t5 (List.mem_of_getElem? (i := 138) (by decide +kernel))) rfl
  · exact kv_in (kv_t5 (List.mem_of_getElem? (i := 140) (by decide +kernel))) rfl
  · exact kv_in (kv_t5 (List.mem_of_getElem? (i := 142) (by decide +kernel))) rfl
  · exact kv_in (kv_t5 (List.mem_of_getElem? (i := 144) (by decide +kernel))) rfl
  · exact kv_in (kv_t5 (List.mem_of_getElem? (i := 146) (by decide +kernel))) rfl
  · exact kv_in (kv_t5 (List.mem_of_getElem? (i := 148) (by decide +kernel))) rfl
  · exact kv_in (kv_t5 (List.mem_of_getElem? (i := 150) (by decide +kernel))) rfl
  · exact kv_in (kv_t5 (List.mem_of_getElem? (i := 152) (by decide +kernel))) rfl
  · exact kv_in (kv_t5 (List.mem_of_getElem? (i := 154) (by decide +kernel))) rfl
  · exact kv_in (kv_t5 (List.mem_of_getElem? (i := 156) (by decide +kernel))) rfl
  · exact kv_in (kv_t5 (List.mem_of_getElem? (i := 158) (by decide +kernel))) rfl
  · exact kv_in (kv_t5 (List.mem_of_getElem? (i := 160) (by decide +kernel))) rfl
  · exact kv_in (kv_t5 (List.mem_of_getElem? (i := 162) (by decide +kernel))) rfl
  · exact kv_in (kv_t5 (List.mem_of_getElem? (i := 164) (by decide +kernel))) rfl
  · exact kv_in (kv_t5 (List.mem_of_getElem? (i := 166) (by decide +kernel))) rfl
  · exact kv_in (kv_t5 (List.mem_of_getElem? (i := 168) (by decide +kernel))) rfl
  · exact kv_in (kv_t5 (List.mem_of_getElem? (i := 170) (by decide +kernel))) rfl
  · exact kv_in (kv_t5 (List.mem_of_getElem? (i := 172) (by decide +kernel))) rfl
  · exact kv_in (kv_t5 (List.mem_of_getElem? (i := 174) (by decide +kernel))) rfl
  · exact kv_in (kv_t5 (List.mem_of_getElem? (i := 176) (by decide +kernel))) rfl
  · exact kv_in (kv_t5 (List.mem_of_getElem? (i := 178) (by decide +kernel))) rfl
  · exact kv_in (kv_t5 (List.mem_of_getElem? (i := 180) (by decide +kernel))) rfl
  · exact kv_in (kv_t5 (List.mem_of_getElem? (i := 182) (by decide +kernel))) rfl
  · exact kv_in (kv_t5 (List.mem_of_getElem? (i := 184) (by decide +kernel))) rfl
  · exact kv_in (kv_t5 (List.mem_of_getElem? (i := 186) (by decide +kernel))) rfl
  · exact kv_in (kv_t5 (List.mem_of_getElem? (i := 188) (by decide +kernel))) rfl
  · exact kv_in (kv_t5 (List.mem_of_getElem? (i := 190) (by decide +kernel))) rfl
theorem kC12 : kv_CL 12 RX12 TX12 32 tyX12 := ⟨rfl, fun x h => by
  obtain ⟨k, hk, rfl⟩ := List.mem_map.mp h
  exact kU12 k (List.mem_range.mp hk), tyX12_ok, nmX12, by decide⟩
theorem fX11_12 : kv_FL RX11 12 11 0 (.object "KnockTable$Store") true := ⟨_, _, _, _, kC11, Nat.le_of_ble_eq_true rfl, rfl, rfl, rfl, kv_in (kv_t2 (List.mem_of_getElem? (i := 208) (by decide +kernel))) rfl⟩
theorem fX11_16 : kv_FL RX11 16 11 1 (.object "KnockTable$Store") true := ⟨_, _, _, _, kC11, Nat.le_of_ble_eq_true rfl, rfl, rfl, rfl, kv_in (kv_t2 (List.mem_of_getElem? (i := 209) (by decide +kernel))) rfl⟩
theorem fX11_24 : kv_FL RX11 24 11 2 (.object "KnockTable$Judge") true := ⟨_, _, _, _, kC11, Nat.le_of_ble_eq_true rfl, rfl, rfl, rfl, kv_in (kv_t2 (List.mem_of_getElem? (i := 210) (by decide +kernel))) rfl⟩
theorem fX11_31 : kv_FL RX11 31 11 3 (.object "KnockTable$Reader") true := ⟨_, _, _, _, kC11, Nat.le_of_ble_eq_true rfl, rfl, rfl, rfl, kv_in (kv_t2 (List.mem_of_getElem? (i := 211) (by decide +kernel))) rfl⟩
theorem fX11_40 : kv_FL RX11 40 11 4 (.object "KnockTable$Ledger") true := ⟨_, _, _, _, kC11, Nat.le_of_ble_eq_true rfl, rfl, rfl, rfl, kv_in (kv_t2 (List.mem_of_getElem? (i := 212) (by decide +kernel))) rfl⟩
theorem fX11_47 : kv_FL RX11 47 11 5 (.object "KnockTable$Ties") true := ⟨_, _, _, _, kC11, Nat.le_of_ble_eq_true rfl, rfl, rfl, rfl, kv_in (kv_t2 (List.mem_of_getElem? (i := 213) (by decide +kernel))) rfl⟩
theorem fX11_54 : kv_FL RX11 54 11 6 (.object "KnockTable$Voices") true := ⟨_, _, _, _, kC11, Nat.le_of_ble_eq_true rfl, rfl, rfl, rfl, kv_in (kv_t2 (List.mem_of_getElem? (i := 214) (by decide +kernel))) rfl⟩
theorem fX11_60 : kv_FL RX11 60 11 7 (.array (.object "KnockTable$Sheet")) true := ⟨_, _, _, _, kC11, Nat.le_of_ble_eq_true rfl, rfl, rfl, rfl, kv_in (kv_t2 (List.mem_of_getElem? (i := 215) (by decide +kernel))) rfl⟩
theorem fX11_64 : kv_FL RX11 64 11 8 (.array .int) true := ⟨_, _, _, _, kC11, Nat.le_of_ble_eq_true rfl, rfl, rfl, rfl, kv_in (kv_t2 (List.mem_of_getElem? (i := 216) (by decide +kernel))) rfl⟩
theorem fX11_79 : kv_FL RX11 79 7 1 .int false := ⟨_, _, _, _, kC7, Nat.le_of_ble_eq_true rfl, rfl, rfl, rfl, kv_in (kv_t1 (List.mem_of_getElem? (i := 191) (by decide +kernel))) rfl⟩
theorem fX11_84 : kv_FL RX11 84 7 0 (.array (.object "KnockTable$Car")) true := ⟨_, _, _, _, kC7, Nat.le_of_ble_eq_true rfl, rfl, rfl, rfl, kv_in (kv_t1 (List.mem_of_getElem? (i := 186) (by decide +kernel))) rfl⟩
theorem fX11_98 : kv_FL RX11 98 0 0 .int false := ⟨_, _, _, _, kC0, Nat.le_of_ble_eq_true rfl, rfl, rfl, rfl, kv_in (kv_t1 (List.mem_of_getElem? (i := 60) (by decide +kernel))) rfl⟩
theorem fX11_101 : kv_FL RX11 101 0 1 .int false := ⟨_, _, _, _, kC0, Nat.le_of_ble_eq_true rfl, rfl, rfl, rfl, kv_in (kv_t1 (List.mem_of_getElem? (i := 62) (by decide +kernel))) rfl⟩
theorem fX11_104 : kv_FL RX11 104 0 2 .int false := ⟨_, _, _, _, kC0, Nat.le_of_ble_eq_true rfl, rfl, rfl, rfl, kv_in (kv_t1 (List.mem_of_getElem? (i := 65) (by decide +kernel))) rfl⟩
theorem fX11_107 : kv_FL RX11 107 0 3 .int false := ⟨_, _, _, _, kC0, Nat.le_of_ble_eq_true rfl, rfl, rfl, rfl, kv_in (kv_t1 (List.mem_of_getElem? (i := 68) (by decide +kernel))) rfl⟩
theorem fX11_110 : kv_FL RX11 110 0 4 .int false := ⟨_, _, _, _, kC0, Nat.le_of_ble_eq_true rfl, rfl, rfl, rfl, kv_in (kv_t1 (List.mem_of_getElem? (i := 71) (by decide +kernel))) rfl⟩
theorem fX11_117 : kv_FL RX11 117 0 5 (.array .int) true := ⟨_, _, _, _, kC0, Nat.le_of_ble_eq_true rfl, rfl, rfl, rfl, kv_in (kv_t1 (List.mem_of_getElem? (i := 73) (by decide +kernel))) rfl⟩
theorem fX11_121 : kv_FL RX11 121 7 5 .int false := ⟨_, _, _, _, kC7, Nat.le_of_ble_eq_true rfl, rfl, rfl, rfl, kv_in (kv_t1 (List.mem_of_getElem? (i := 203) (by decide +kernel))) rfl⟩
theorem fX11_124 : kv_FL RX11 124 7 2 (.array .int) true := ⟨_, _, _, _, kC7, Nat.le_of_ble_eq_true rfl, rfl, rfl, rfl, kv_in (kv_t1 (List.mem_of_getElem? (i := 194) (by decide +kernel))) rfl⟩
theorem fX11_127 : kv_FL RX11 127 7 3 (.array .int) true := ⟨_, _, _, _, kC7, Nat.le_of_ble_eq_true rfl, rfl, rfl, rfl, kv_in (kv_t1 (List.mem_of_getElem? (i := 197) (by decide +kernel))) rfl⟩
theorem fX11_130 : kv_FL RX11 130 7 4 (.array .int) true := ⟨_, _, _, _, kC7, Nat.le_of_ble_eq_true rfl, rfl, rfl, rfl, kv_in (kv_t1 (List.mem_of_getElem? (i := 200) (by decide +kernel))) rfl⟩
theorem fX11_134 : kv_FL RX11 134 7 7 .int false := ⟨_, _, _, _, kC7, Nat.le_of_ble_eq_true rfl, rfl, rfl, rfl, kv_in (kv_t1 (List.mem_of_getElem? (i := 211) (by decide +kernel))) rfl⟩
theorem fX11_137 : kv_FL RX11 137 7 6 (.array (.object "KnockTable$Crash")) true := ⟨_, _, _, _, kC7, Nat.le_of_ble_eq_true rfl, rfl, rfl, rfl, kv_in (kv_t1 (List.mem_of_getElem? (i := 207) (by decide +kernel))) rfl⟩
theorem fX11_148 : kv_FL RX11 148 1 1 (.array .int) true := ⟨_, _, _, _, kC1, Nat.le_of_ble_eq_true rfl, rfl, rfl, rfl, kv_in (kv_t1 (List.mem_of_getElem? (i := 100) (by decide +kernel))) rfl⟩
theorem fX11_154 : kv_FL RX11 154 1 0 (.array .int) true := ⟨_, _, _, _, kC1, Nat.le_of_ble_eq_true rfl, rfl, rfl, rfl, kv_in (kv_t1 (List.mem_of_getElem? (i := 96) (by decide +kernel))) rfl⟩
theorem fX11_156 : kv_FL RX11 156 1 2 .int false := ⟨_, _, _, _, kC1, Nat.le_of_ble_eq_true rfl, rfl, rfl, rfl, kv_in (kv_t1 (List.mem_of_getElem? (i := 103) (by decide +kernel))) rfl⟩
theorem fX11_159 : kv_FL RX11 159 1 3 .int false := ⟨_, _, _, _, kC1, Nat.le_of_ble_eq_true rfl, rfl, rfl, rfl, kv_in (kv_t1 (List.mem_of_getElem? (i := 107) (by decide +kernel))) rfl⟩
theorem fX11_184 : kv_FL RX11 184 7 12 (.array .int) true := ⟨_, _, _, _, kC7, Nat.le_of_ble_eq_true rfl, rfl, rfl, rfl, kv_in (kv_t1 (List.mem_of_getElem? (i := 226) (by decide +kernel))) rfl⟩
theorem fX11_190 : kv_FL RX11 190 7 13 (.array .int) true := ⟨_, _, _, _, kC7, Nat.le_of_ble_eq_true rfl, rfl, rfl, rfl, kv_in (kv_t1 (List.mem_of_getElem? (i := 230) (by decide +kernel))) rfl⟩
theorem fX11_197 : kv_FL RX11 197 3 3 .int false := ⟨_, _, _, _, kC3, Nat.le_of_ble_eq_true rfl, rfl, rfl, rfl, kv_in (kv_t2 (List.mem_of_getElem? (i := 49) (by decide +kernel))) rfl⟩
theorem fX11_200 : kv_FL RX11 200 3 4 .boolean false := ⟨_, _, _, _, kC3, Nat.le_of_ble_eq_true rfl, rfl, rfl, rfl, kv_in (kv_t2 (List.mem_of_getElem? (i := 51) (by decide +kernel))) rfl⟩
theorem fX11_204 : kv_FL RX11 204 3 5 .int false := ⟨_, _, _, _, kC3, Nat.le_of_ble_eq_true rfl, rfl, rfl, rfl, kv_in (kv_t2 (List.mem_of_getElem? (i := 53) (by decide +kernel))) rfl⟩
theorem fX11_207 : kv_FL RX11 207 3 6 .int false := ⟨_, _, _, _, kC3, Nat.le_of_ble_eq_true rfl, rfl, rfl, rfl, kv_in (kv_t2 (List.mem_of_getElem? (i := 55) (by decide +kernel))) rfl⟩
theorem fX11_210 : kv_FL RX11 210 3 7 .int false := ⟨_, _, _, _, kC3, Nat.le_of_ble_eq_true rfl, rfl, rfl, rfl, kv_in (kv_t2 (List.mem_of_getElem? (i := 57) (by decide +kernel))) rfl⟩
theorem fX11_222 : kv_FL RX11 222 7 15 .int false := ⟨_, _, _, _, kC7, Nat.le_of_ble_eq_true rfl, rfl, rfl, rfl, kv_in (kv_t1 (List.mem_of_getElem? (i := 234) (by decide +kernel))) rfl⟩
theorem fX11_225 : kv_FL RX11 225 7 14 (.array .int) true := ⟨_, _, _, _, kC7, Nat.le_of_ble_eq_true rfl, rfl, rfl, rfl, kv_in (kv_t1 (List.mem_of_getElem? (i := 232) (by decide +kernel))) rfl⟩
theorem fX11_228 : kv_FL RX11 228 7 9 .int false := ⟨_, _, _, _, kC7, Nat.le_of_ble_eq_true rfl, rfl, rfl, rfl, kv_in (kv_t1 (List.mem_of_getElem? (i := 217) (by decide +kernel))) rfl⟩
theorem fX11_231 : kv_FL RX11 231 7 8 (.array (.object "KnockTable$Treaty")) true := ⟨_, _, _, _, kC7, Nat.le_of_ble_eq_true rfl, rfl, rfl, rfl, kv_in (kv_t1 (List.mem_of_getElem? (i := 214) (by decide +kernel))) rfl⟩
theorem fX11_256 : kv_FL RX11 256 7 11 .int false := ⟨_, _, _, _, kC7, Nat.le_of_ble_eq_true rfl, rfl, rfl, rfl, kv_in (kv_t1 (List.mem_of_getElem? (i := 224) (by decide +kernel))) rfl⟩
theorem fX11_259 : kv_FL RX11 259 7 10 (.array (.object "KnockTable$Entry")) true := ⟨_, _, _, _, kC7, Nat.le_of_ble_eq_true rfl, rfl, rfl, rfl, kv_in (kv_t1 (List.mem_of_getElem? (i := 221) (by decide +kernel))) rfl⟩
theorem fX11_270 : kv_FL RX11 270 2 5 .int false := ⟨_, _, _, _, kC2, Nat.le_of_ble_eq_true rfl, rfl, rfl, rfl, kv_in (kv_t1 (List.mem_of_getElem? (i := 171) (by decide +kernel))) rfl⟩
theorem fX11_276 : kv_FL RX11 276 2 0 .int false := ⟨_, _, _, _, kC2, Nat.le_of_ble_eq_true rfl, rfl, rfl, rfl, kv_in (kv_t1 (List.mem_of_getElem? (i := 152) (by decide +kernel))) rfl⟩
theorem fX11_279 : kv_FL RX11 279 2 1 .int false := ⟨_, _, _, _, kC2, Nat.le_of_ble_eq_true rfl, rfl, rfl, rfl, kv_in (kv_t1 (List.mem_of_getElem? (i := 157) (by decide +kernel))) rfl⟩
theorem fX11_282 : kv_FL RX11 282 2 2 .int false := ⟨_, _, _, _, kC2, Nat.le_of_ble_eq_true rfl, rfl, rfl, rfl, kv_in (kv_t1 (List.mem_of_getElem? (i := 161) (by decide +kernel))) rfl⟩
theorem fX11_285 : kv_FL RX11 285 2 3 .int false := ⟨_, _, _, _, kC2, Nat.le_of_ble_eq_true rfl, rfl, rfl, rfl, kv_in (kv_t1 (List.mem_of_getElem? (i := 164) (by decide +kernel))) rfl⟩
theorem fX11_288 : kv_FL RX11 288 2 4 .int false := ⟨_, _, _, _, kC2, Nat.le_of_ble_eq_true rfl, rfl, rfl, rfl, kv_in (kv_t1 (List.mem_of_getElem? (i := 166) (by decide +kernel))) rfl⟩
theorem fX11_316 : kv_FL RX11 316 4 2 (.array .long) true := ⟨_, _, _, _, kC4, Nat.le_of_ble_eq_true rfl, rfl, rfl, rfl, kv_in (kv_t2 (List.mem_of_getElem? (i := 113) (by decide +kernel))) rfl⟩
theorem fX11_320 : kv_FL RX11 320 4 3 .int false := ⟨_, _, _, _, kC4, Nat.le_of_ble_eq_true rfl, rfl, rfl, rfl, kv_in (kv_t2 (List.mem_of_getElem? (i := 115) (by decide +kernel))) rfl⟩
theorem fX11_327 : kv_FL RX11 327 7 18 .int false := ⟨_, _, _, _, kC7, Nat.le_of_ble_eq_true rfl, rfl, rfl, rfl, kv_in (kv_t2 (List.mem_of_getElem? (i := 0) (by decide +kernel))) rfl⟩
theorem fX11_359 : kv_FL RX11 359 6 1 .int false := ⟨_, _, _, _, kC6, Nat.le_of_ble_eq_true rfl, rfl, rfl, rfl, kv_in (kv_t2 (List.mem_of_getElem? (i := 195) (by decide +kernel))) rfl⟩
theorem fX11_362 : kv_FL RX11 362 6 2 .int false := ⟨_, _, _, _, kC6, Nat.le_of_ble_eq_true rfl, rfl, rfl, rfl, kv_in (kv_t2 (List.mem_of_getElem? (i := 197) (by decide +kernel))) rfl⟩
theorem fX11_378 : kv_FL RX11 378 10 2 .boolean false := ⟨_, _, _, _, kC10, Nat.le_of_ble_eq_true rfl, rfl, rfl, rfl, kv_in (kv_t2 (List.mem_of_getElem? (i := 168) (by decide +kernel))) rfl⟩
theorem fX11_382 : kv_FL RX11 382 10 1 .int false := ⟨_, _, _, _, kC10, Nat.le_of_ble_eq_true rfl, rfl, rfl, rfl, kv_in (kv_t2 (List.mem_of_getElem? (i := 166) (by decide +kernel))) rfl⟩
theorem fX11_385 : kv_FL RX11 385 10 0 (.array .int) true := ⟨_, _, _, _, kC10, Nat.le_of_ble_eq_true rfl, rfl, rfl, rfl, kv_in (kv_t2 (List.mem_of_getElem? (i := 164) (by decide +kernel))) rfl⟩
theorem fX11_390 : kv_FL RX11 390 6 0 (.array .int) true := ⟨_, _, _, _, kC6, Nat.le_of_ble_eq_true rfl, rfl, rfl, rfl, kv_in (kv_t2 (List.mem_of_getElem? (i := 193) (by decide +kernel))) rfl⟩
theorem fX11_408 : kv_FL RX11 408 11 9 .int false := ⟨_, _, _, _, kC11, Nat.le_of_ble_eq_true rfl, rfl, rfl, rfl, kv_in (kv_t2 (List.mem_of_getElem? (i := 217) (by decide +kernel))) rfl⟩
theorem fX11_411 : kv_FL RX11 411 7 17 .int false := ⟨_, _, _, _, kC7, Nat.le_of_ble_eq_true rfl, rfl, rfl, rfl, kv_in (kv_t1 (List.mem_of_getElem? (i := 238) (by decide +kernel))) rfl⟩
theorem fX11_414 : kv_FL RX11 414 7 16 (.array .int) true := ⟨_, _, _, _, kC7, Nat.le_of_ble_eq_true rfl, rfl, rfl, rfl, kv_in (kv_t1 (List.mem_of_getElem? (i := 236) (by decide +kernel))) rfl⟩
theorem fX0_9 : kv_FL RX0 9 0 5 (.array .int) true := ⟨_, _, _, _, kC0, Nat.le_of_ble_eq_true rfl, rfl, rfl, rfl, kv_in (kv_t1 (List.mem_of_getElem? (i := 72) (by decide +kernel))) rfl⟩
theorem fX0_15 : kv_FL RX0 15 0 0 .int false := ⟨_, _, _, _, kC0, Nat.le_of_ble_eq_true rfl, rfl, rfl, rfl, kv_in (kv_t1 (List.mem_of_getElem? (i := 58) (by decide +kernel))) rfl⟩
theorem fX0_19 : kv_FL RX0 19 0 1 .int false := ⟨_, _, _, _, kC0, Nat.le_of_ble_eq_true rfl, rfl, rfl, rfl, kv_in (kv_t1 (List.mem_of_getElem? (i := 61) (by decide +kernel))) rfl⟩
theorem fX0_22 : kv_FL RX0 22 0 2 .int false := ⟨_, _, _, _, kC0, Nat.le_of_ble_eq_true rfl, rfl, rfl, rfl, kv_in (kv_t1 (List.mem_of_getElem? (i := 64) (by decide +kernel))) rfl⟩
theorem fX0_25 : kv_FL RX0 25 0 3 .int false := ⟨_, _, _, _, kC0, Nat.le_of_ble_eq_true rfl, rfl, rfl, rfl, kv_in (kv_t1 (List.mem_of_getElem? (i := 67) (by decide +kernel))) rfl⟩
theorem fX0_28 : kv_FL RX0 28 0 4 .int false := ⟨_, _, _, _, kC0, Nat.le_of_ble_eq_true rfl, rfl, rfl, rfl, kv_in (kv_t1 (List.mem_of_getElem? (i := 70) (by decide +kernel))) rfl⟩
theorem fX1_9 : kv_FL RX1 9 1 0 (.array .int) true := ⟨_, _, _, _, kC1, Nat.le_of_ble_eq_true rfl, rfl, rfl, rfl, kv_in (kv_t1 (List.mem_of_getElem? (i := 93) (by decide +kernel))) rfl⟩
theorem fX1_15 : kv_FL RX1 15 1 1 (.array .int) true := ⟨_, _, _, _, kC1, Nat.le_of_ble_eq_true rfl, rfl, rfl, rfl, kv_in (kv_t1 (List.mem_of_getElem? (i := 98) (by decide +kernel))) rfl⟩
theorem fX1_24 : kv_FL RX1 24 1 2 .int false := ⟨_, _, _, _, kC1, Nat.le_of_ble_eq_true rfl, rfl, rfl, rfl, kv_in (kv_t1 (List.mem_of_getElem? (i := 101) (by decide +kernel))) rfl⟩
theorem fX1_28 : kv_FL RX1 28 1 3 .int false := ⟨_, _, _, _, kC1, Nat.le_of_ble_eq_true rfl, rfl, rfl, rfl, kv_in (kv_t1 (List.mem_of_getElem? (i := 104) (by decide +kernel))) rfl⟩
theorem fX1_31 : kv_FL RX1 31 1 4 .int false := ⟨_, _, _, _, kC1, Nat.le_of_ble_eq_true rfl, rfl, rfl, rfl, kv_in (kv_t1 (List.mem_of_getElem? (i := 110) (by decide +kernel))) rfl⟩
theorem fX2_7 : kv_FL RX2 7 2 0 .int false := ⟨_, _, _, _, kC2, Nat.le_of_ble_eq_true rfl, rfl, rfl, rfl, kv_in (kv_t1 (List.mem_of_getElem? (i := 148) (by decide +kernel))) rfl⟩
theorem fX2_13 : kv_FL RX2 13 2 1 .int false := ⟨_, _, _, _, kC2, Nat.le_of_ble_eq_true rfl, rfl, rfl, rfl, kv_in (kv_t1 (List.mem_of_getElem? (i := 153) (by decide +kernel))) rfl⟩
theorem fX2_16 : kv_FL RX2 16 2 2 .int false := ⟨_, _, _, _, kC2, Nat.le_of_ble_eq_true rfl, rfl, rfl, rfl, kv_in (kv_t1 (List.mem_of_getElem? (i := 158) (by decide +kernel))) rfl⟩
theorem fX2_19 : kv_FL RX2 19 2 3 .int false := ⟨_, _, _, _, kC2, Nat.le_of_ble_eq_true rfl, rfl, rfl, rfl, kv_in (kv_t1 (List.mem_of_getElem? (i := 162) (by decide +kernel))) rfl⟩
theorem fX2_22 : kv_FL RX2 22 2 4 .int false := ⟨_, _, _, _, kC2, Nat.le_of_ble_eq_true rfl, rfl, rfl, rfl, kv_in (kv_t1 (List.mem_of_getElem? (i := 165) (by decide +kernel))) rfl⟩
theorem fX2_25 : kv_FL RX2 25 2 5 .int false := ⟨_, _, _, _, kC2, Nat.le_of_ble_eq_true rfl, rfl, rfl, rfl, kv_in (kv_t1 (List.mem_of_getElem? (i := 168) (by decide +kernel))) rfl⟩
theorem fX3_9 : kv_FL RX3 9 3 1 (.array .int) true := ⟨_, _, _, _, kC3, Nat.le_of_ble_eq_true rfl, rfl, rfl, rfl, kv_in (kv_t2 (List.mem_of_getElem? (i := 47) (by decide +kernel))) rfl⟩
theorem fX3_15 : kv_FL RX3 15 3 2 (.array .int) true := ⟨_, _, _, _, kC3, Nat.le_of_ble_eq_true rfl, rfl, rfl, rfl, kv_in (kv_t2 (List.mem_of_getElem? (i := 48) (by decide +kernel))) rfl⟩
theorem fX3_18 : kv_FL RX3 18 3 0 (.object "KnockTable$Store") true := ⟨_, _, _, _, kC3, Nat.le_of_ble_eq_true rfl, rfl, rfl, rfl, kv_in (kv_t2 (List.mem_of_getElem? (i := 46) (by decide +kernel))) rfl⟩
theorem fX3_22 : kv_FL RX3 22 7 5 .int false := ⟨_, _, _, _, kC7, Nat.le_of_ble_eq_true rfl, rfl, rfl, rfl, kv_in (kv_t1 (List.mem_of_getElem? (i := 201) (by decide +kernel))) rfl⟩
theorem fX3_28 : kv_FL RX3 28 7 2 (.array .int) true := ⟨_, _, _, _, kC7, Nat.le_of_ble_eq_true rfl, rfl, rfl, rfl, kv_in (kv_t1 (List.mem_of_getElem? (i := 193) (by decide +kernel))) rfl⟩
theorem fX3_31 : kv_FL RX3 31 1 4 .int false := ⟨_, _, _, _, kC1, Nat.le_of_ble_eq_true rfl, rfl, rfl, rfl, kv_in (kv_t1 (List.mem_of_getElem? (i := 109) (by decide +kernel))) rfl⟩
theorem fX3_36 : kv_FL RX3 36 7 3 (.array .int) true := ⟨_, _, _, _, kC7, Nat.le_of_ble_eq_true rfl, rfl, rfl, rfl, kv_in (kv_t1 (List.mem_of_getElem? (i := 196) (by decide +kernel))) rfl⟩
theorem fX3_43 : kv_FL RX3 43 1 1 (.array .int) true := ⟨_, _, _, _, kC1, Nat.le_of_ble_eq_true rfl, rfl, rfl, rfl, kv_in (kv_t1 (List.mem_of_getElem? (i := 99) (by decide +kernel))) rfl⟩
theorem fX3_46 : kv_FL RX3 46 7 4 (.array .int) true := ⟨_, _, _, _, kC7, Nat.le_of_ble_eq_true rfl, rfl, rfl, rfl, kv_in (kv_t1 (List.mem_of_getElem? (i := 199) (by decide +kernel))) rfl⟩
theorem fX3_68 : kv_FL RX3 68 1 2 .int false := ⟨_, _, _, _, kC1, Nat.le_of_ble_eq_true rfl, rfl, rfl, rfl, kv_in (kv_t1 (List.mem_of_getElem? (i := 102) (by decide +kernel))) rfl⟩
theorem fX3_79 : kv_FL RX3 79 1 3 .int false := ⟨_, _, _, _, kC1, Nat.le_of_ble_eq_true rfl, rfl, rfl, rfl, kv_in (kv_t1 (List.mem_of_getElem? (i := 106) (by decide +kernel))) rfl⟩
theorem fX3_89 : kv_FL RX3 89 7 9 .int false := ⟨_, _, _, _, kC7, Nat.le_of_ble_eq_true rfl, rfl, rfl, rfl, kv_in (kv_t1 (List.mem_of_getElem? (i := 216) (by decide +kernel))) rfl⟩
theorem fX3_92 : kv_FL RX3 92 7 8 (.array (.object "KnockTable$Treaty")) true := ⟨_, _, _, _, kC7, Nat.le_of_ble_eq_true rfl, rfl, rfl, rfl, kv_in (kv_t1 (List.mem_of_getElem? (i := 213) (by decide +kernel))) rfl⟩
theorem fX3_96 : kv_FL RX3 96 9 2 .int false := ⟨_, _, _, _, kC9, Nat.le_of_ble_eq_true rfl, rfl, rfl, rfl, kv_in (kv_t1 (List.mem_of_getElem? (i := 130) (by decide +kernel))) rfl⟩
theorem fX3_101 : kv_FL RX3 101 9 3 .int false := ⟨_, _, _, _, kC9, Nat.le_of_ble_eq_true rfl, rfl, rfl, rfl, kv_in (kv_t1 (List.mem_of_getElem? (i := 133) (by decide +kernel))) rfl⟩
theorem fX3_106 : kv_FL RX3 106 0 1 .int false := ⟨_, _, _, _, kC0, Nat.le_of_ble_eq_true rfl, rfl, rfl, rfl, kv_in (kv_t1 (List.mem_of_getElem? (i := 63) (by decide +kernel))) rfl⟩
theorem fX3_111 : kv_FL RX3 111 0 2 .int false := ⟨_, _, _, _, kC0, Nat.le_of_ble_eq_true rfl, rfl, rfl, rfl, kv_in (kv_t1 (List.mem_of_getElem? (i := 66) (by decide +kernel))) rfl⟩
theorem fX3_114 : kv_FL RX3 114 7 13 (.array .int) true := ⟨_, _, _, _, kC7, Nat.le_of_ble_eq_true rfl, rfl, rfl, rfl, kv_in (kv_t1 (List.mem_of_getElem? (i := 229) (by decide +kernel))) rfl⟩
theorem fX3_120 : kv_FL RX3 120 7 12 (.array .int) true := ⟨_, _, _, _, kC7, Nat.le_of_ble_eq_true rfl, rfl, rfl, rfl, kv_in (kv_t1 (List.mem_of_getElem? (i := 227) (by decide +kernel))) rfl⟩
theorem fX3_123 : kv_FL RX3 123 7 0 (.array (.object "KnockTable$Car")) true := ⟨_, _, _, _, kC7, Nat.le_of_ble_eq_true rfl, rfl, rfl, rfl, kv_in (kv_t1 (List.mem_of_getElem? (i := 189) (by decide +kernel))) rfl⟩
theorem fX3_127 : kv_FL RX3 127 1 0 (.array .int) true := ⟨_, _, _, _, kC1, Nat.le_of_ble_eq_true rfl, rfl, rfl, rfl, kv_in (kv_t1 (List.mem_of_getElem? (i := 97) (by decide +kernel))) rfl⟩
theorem fX3_133 : kv_FL RX3 133 3 3 .int false := ⟨_, _, _, _, kC3, Nat.le_of_ble_eq_true rfl, rfl, rfl, rfl, kv_in (kv_t2 (List.mem_of_getElem? (i := 50) (by decide +kernel))) rfl⟩
theorem fX3_136 : kv_FL RX3 136 3 4 .boolean false := ⟨_, _, _, _, kC3, Nat.le_of_ble_eq_true rfl, rfl, rfl, rfl, kv_in (kv_t2 (List.mem_of_getElem? (i := 52) (by decide +kernel))) rfl⟩
theorem fX3_140 : kv_FL RX3 140 3 5 .int false := ⟨_, _, _, _, kC3, Nat.le_of_ble_eq_true rfl, rfl, rfl, rfl, kv_in (kv_t2 (List.mem_of_getElem? (i := 54) (by decide +kernel))) rfl⟩
theorem fX3_143 : kv_FL RX3 143 3 7 .int false := ⟨_, _, _, _, kC3, Nat.le_of_ble_eq_true rfl, rfl, rfl, rfl, kv_in (kv_t2 (List.mem_of_getElem? (i := 58) (by decide +kernel))) rfl⟩
theorem fX3_146 : kv_FL RX3 146 3 6 .int false := ⟨_, _, _, _, kC3, Nat.le_of_ble_eq_true rfl, rfl, rfl, rfl, kv_in (kv_t2 (List.mem_of_getElem? (i := 56) (by decide +kernel))) rfl⟩
theorem fX3_156 : kv_FL RX3 156 0 3 .int false := ⟨_, _, _, _, kC0, Nat.le_of_ble_eq_true rfl, rfl, rfl, rfl, kv_in (kv_t1 (List.mem_of_getElem? (i := 69) (by decide +kernel))) rfl⟩
theorem fX3_159 : kv_FL RX3 159 7 6 (.array (.object "KnockTable$Crash")) true := ⟨_, _, _, _, kC7, Nat.le_of_ble_eq_true rfl, rfl, rfl, rfl, kv_in (kv_t1 (List.mem_of_getElem? (i := 208) (by decide +kernel))) rfl⟩
theorem fX3_163 : kv_FL RX3 163 2 0 .int false := ⟨_, _, _, _, kC2, Nat.le_of_ble_eq_true rfl, rfl, rfl, rfl, kv_in (kv_t1 (List.mem_of_getElem? (i := 151) (by decide +kernel))) rfl⟩
theorem fX3_168 : kv_FL RX3 168 2 1 .int false := ⟨_, _, _, _, kC2, Nat.le_of_ble_eq_true rfl, rfl, rfl, rfl, kv_in (kv_t1 (List.mem_of_getElem? (i := 156) (by decide +kernel))) rfl⟩
theorem fX3_175 : kv_FL RX3 175 2 2 .int false := ⟨_, _, _, _, kC2, Nat.le_of_ble_eq_true rfl, rfl, rfl, rfl, kv_in (kv_t1 (List.mem_of_getElem? (i := 160) (by decide +kernel))) rfl⟩
theorem fX3_178 : kv_FL RX3 178 7 10 (.array (.object "KnockTable$Entry")) true := ⟨_, _, _, _, kC7, Nat.le_of_ble_eq_true rfl, rfl, rfl, rfl, kv_in (kv_t1 (List.mem_of_getElem? (i := 220) (by decide +kernel))) rfl⟩
theorem fX3_182 : kv_FL RX3 182 2 5 .int false := ⟨_, _, _, _, kC2, Nat.le_of_ble_eq_true rfl, rfl, rfl, rfl, kv_in (kv_t1 (List.mem_of_getElem? (i := 170) (by decide +kernel))) rfl⟩
theorem fX4_9 : kv_FL RX4 9 4 2 (.array .long) true := ⟨_, _, _, _, kC4, Nat.le_of_ble_eq_true rfl, rfl, rfl, rfl, kv_in (kv_t2 (List.mem_of_getElem? (i := 112) (by decide +kernel))) rfl⟩
theorem fX4_15 : kv_FL RX4 15 4 4 (.array .long) true := ⟨_, _, _, _, kC4, Nat.le_of_ble_eq_true rfl, rfl, rfl, rfl, kv_in (kv_t2 (List.mem_of_getElem? (i := 116) (by decide +kernel))) rfl⟩
theorem fX4_18 : kv_FL RX4 18 4 5 (.array .long) true := ⟨_, _, _, _, kC4, Nat.le_of_ble_eq_true rfl, rfl, rfl, rfl, kv_in (kv_t2 (List.mem_of_getElem? (i := 117) (by decide +kernel))) rfl⟩
theorem fX4_21 : kv_FL RX4 21 4 6 (.array .int) true := ⟨_, _, _, _, kC4, Nat.le_of_ble_eq_true rfl, rfl, rfl, rfl, kv_in (kv_t2 (List.mem_of_getElem? (i := 118) (by decide +kernel))) rfl⟩
theorem fX4_25 : kv_FL RX4 25 4 0 (.object "KnockTable$Store") true := ⟨_, _, _, _, kC4, Nat.le_of_ble_eq_true rfl, rfl, rfl, rfl, kv_in (kv_t2 (List.mem_of_getElem? (i := 110) (by decide +kernel))) rfl⟩
theorem fX4_29 : kv_FL RX4 29 4 1 (.object "KnockTable$Judge") true := ⟨_, _, _, _, kC4, Nat.le_of_ble_eq_true rfl, rfl, rfl, rfl, kv_in (kv_t2 (List.mem_of_getElem? (i := 111) (by decide +kernel))) rfl⟩
theorem fX4_39 : kv_FL RX4 39 4 3 .int false := ⟨_, _, _, _, kC4, Nat.le_of_ble_eq_true rfl, rfl, rfl, rfl, kv_in (kv_t2 (List.mem_of_getElem? (i := 114) (by decide +kernel))) rfl⟩
theorem fX4_43 : kv_FL RX4 43 7 11 .int false := ⟨_, _, _, _, kC7, Nat.le_of_ble_eq_true rfl, rfl, rfl, rfl, kv_in (kv_t1 (List.mem_of_getElem? (i := 222) (by decide +kernel))) rfl⟩
theorem fX4_48 : kv_FL RX4 48 7 10 (.array (.object "KnockTable$Entry")) true := ⟨_, _, _, _, kC7, Nat.le_of_ble_eq_true rfl, rfl, rfl, rfl, kv_in (kv_t1 (List.mem_of_getElem? (i := 219) (by decide +kernel))) rfl⟩
theorem fX4_52 : kv_FL RX4 52 2 3 .int false := ⟨_, _, _, _, kC2, Nat.le_of_ble_eq_true rfl, rfl, rfl, rfl, kv_in (kv_t1 (List.mem_of_getElem? (i := 163) (by decide +kernel))) rfl⟩
theorem fX4_57 : kv_FL RX4 57 2 5 .int false := ⟨_, _, _, _, kC2, Nat.le_of_ble_eq_true rfl, rfl, rfl, rfl, kv_in (kv_t1 (List.mem_of_getElem? (i := 167) (by decide +kernel))) rfl⟩
theorem fX4_66 : kv_FL RX4 66 2 2 .int false := ⟨_, _, _, _, kC2, Nat.le_of_ble_eq_true rfl, rfl, rfl, rfl, kv_in (kv_t1 (List.mem_of_getElem? (i := 159) (by decide +kernel))) rfl⟩
theorem fX4_69 : kv_FL RX4 69 7 6 (.array (.object "KnockTable$Crash")) true := ⟨_, _, _, _, kC7, Nat.le_of_ble_eq_true rfl, rfl, rfl, rfl, kv_in (kv_t1 (List.mem_of_getElem? (i := 206) (by decide +kernel))) rfl⟩
theorem fX4_73 : kv_FL RX4 73 2 0 .int false := ⟨_, _, _, _, kC2, Nat.le_of_ble_eq_true rfl, rfl, rfl, rfl, kv_in (kv_t1 (List.mem_of_getElem? (i := 149) (by decide +kernel))) rfl⟩
theorem fX4_76 : kv_FL RX4 76 7 0 (.array (.object "KnockTable$Car")) true := ⟨_, _, _, _, kC7, Nat.le_of_ble_eq_true rfl, rfl, rfl, rfl, kv_in (kv_t1 (List.mem_of_getElem? (i := 187) (by decide +kernel))) rfl⟩
theorem fX4_80 : kv_FL RX4 80 1 0 (.array .int) true := ⟨_, _, _, _, kC1, Nat.le_of_ble_eq_true rfl, rfl, rfl, rfl, kv_in (kv_t1 (List.mem_of_getElem? (i := 94) (by decide +kernel))) rfl⟩
theorem fX4_84 : kv_FL RX4 84 2 1 .int false := ⟨_, _, _, _, kC2, Nat.le_of_ble_eq_true rfl, rfl, rfl, rfl, kv_in (kv_t1 (List.mem_of_getElem? (i := 154) (by decide +kernel))) rfl⟩
theorem fX4_87 : kv_FL RX4 87 0 0 .int false := ⟨_, _, _, _, kC0, Nat.le_of_ble_eq_true rfl, rfl, rfl, rfl, kv_in (kv_t1 (List.mem_of_getElem? (i := 59) (by decide +kernel))) rfl⟩
theorem fX5_9 : kv_FL RX5 9 5 0 (.array .int) false := ⟨_, _, _, _, kC5, Nat.le_of_ble_eq_true rfl, rfl, rfl, rfl, kv_in (kv_t2 (List.mem_of_getElem? (i := 82) (by decide +kernel))) rfl⟩
theorem fX5_21 : kv_FL RX5 21 5 1 .int false := ⟨_, _, _, _, kC5, Nat.le_of_ble_eq_true rfl, rfl, rfl, rfl, kv_in (kv_t2 (List.mem_of_getElem? (i := 83) (by decide +kernel))) rfl⟩
theorem fX5_25 : kv_FL RX5 25 5 2 (.object "KnockTable$Treaty") false := ⟨_, _, _, _, kC5, Nat.le_of_ble_eq_true rfl, rfl, rfl, rfl, kv_in (kv_t2 (List.mem_of_getElem? (i := 84) (by decide +kernel))) rfl⟩
theorem fX5_29 : kv_FL RX5 29 5 5 .int false := ⟨_, _, _, _, kC5, Nat.le_of_ble_eq_true rfl, rfl, rfl, rfl, kv_in (kv_t2 (List.mem_of_getElem? (i := 87) (by decide +kernel))) rfl⟩
theorem fX5_32 : kv_FL RX5 32 5 6 .int false := ⟨_, _, _, _, kC5, Nat.le_of_ble_eq_true rfl, rfl, rfl, rfl, kv_in (kv_t2 (List.mem_of_getElem? (i := 88) (by decide +kernel))) rfl⟩
theorem fX5_42 : kv_FL RX5 42 5 3 .int false := ⟨_, _, _, _, kC5, Nat.le_of_ble_eq_true rfl, rfl, rfl, rfl, kv_in (kv_t2 (List.mem_of_getElem? (i := 85) (by decide +kernel))) rfl⟩
theorem fX5_48 : kv_FL RX5 48 5 4 .int false := ⟨_, _, _, _, kC5, Nat.le_of_ble_eq_true rfl, rfl, rfl, rfl, kv_in (kv_t2 (List.mem_of_getElem? (i := 86) (by decide +kernel))) rfl⟩
theorem fX5_90 : kv_FL RX5 90 9 2 .int false := ⟨_, _, _, _, kC9, Nat.le_of_ble_eq_true rfl, rfl, rfl, rfl, kv_in (kv_t1 (List.mem_of_getElem? (i := 131) (by decide +kernel))) rfl⟩
theorem fX6_9 : kv_FL RX6 9 6 0 (.array .int) true := ⟨_, _, _, _, kC6, Nat.le_of_ble_eq_true rfl, rfl, rfl, rfl, kv_in (kv_t2 (List.mem_of_getElem? (i := 192) (by decide +kernel))) rfl⟩
theorem fX6_15 : kv_FL RX6 15 6 3 (.array .int) true := ⟨_, _, _, _, kC6, Nat.le_of_ble_eq_true rfl, rfl, rfl, rfl, kv_in (kv_t2 (List.mem_of_getElem? (i := 198) (by decide +kernel))) rfl⟩
theorem fX6_18 : kv_FL RX6 18 6 1 .int false := ⟨_, _, _, _, kC6, Nat.le_of_ble_eq_true rfl, rfl, rfl, rfl, kv_in (kv_t2 (List.mem_of_getElem? (i := 194) (by decide +kernel))) rfl⟩
theorem fX6_22 : kv_FL RX6 22 6 2 .int false := ⟨_, _, _, _, kC6, Nat.le_of_ble_eq_true rfl, rfl, rfl, rfl, kv_in (kv_t2 (List.mem_of_getElem? (i := 196) (by decide +kernel))) rfl⟩
theorem fX7_11 : kv_FL RX7 11 7 0 (.array (.object "KnockTable$Car")) true := ⟨_, _, _, _, kC7, Nat.le_of_ble_eq_true rfl, rfl, rfl, rfl, kv_in (kv_t1 (List.mem_of_getElem? (i := 185) (by decide +kernel))) rfl⟩
theorem fX7_17 : kv_FL RX7 17 7 2 (.array .int) true := ⟨_, _, _, _, kC7, Nat.le_of_ble_eq_true rfl, rfl, rfl, rfl, kv_in (kv_t1 (List.mem_of_getElem? (i := 192) (by decide +kernel))) rfl⟩
theorem fX7_21 : kv_FL RX7 21 7 3 (.array .int) true := ⟨_, _, _, _, kC7, Nat.le_of_ble_eq_true rfl, rfl, rfl, rfl, kv_in (kv_t1 (List.mem_of_getElem? (i := 195) (by decide +kernel))) rfl⟩
theorem fX7_24 : kv_FL RX7 24 7 4 (.array .int) true := ⟨_, _, _, _, kC7, Nat.le_of_ble_eq_true rfl, rfl, rfl, rfl, kv_in (kv_t1 (List.mem_of_getElem? (i := 198) (by decide +kernel))) rfl⟩
theorem fX7_29 : kv_FL RX7 29 7 6 (.array (.object "KnockTable$Crash")) true := ⟨_, _, _, _, kC7, Nat.le_of_ble_eq_true rfl, rfl, rfl, rfl, kv_in (kv_t1 (List.mem_of_getElem? (i := 204) (by decide +kernel))) rfl⟩
theorem fX7_35 : kv_FL RX7 35 7 8 (.array (.object "KnockTable$Treaty")) true := ⟨_, _, _, _, kC7, Nat.le_of_ble_eq_true rfl, rfl, rfl, rfl, kv_in (kv_t1 (List.mem_of_getElem? (i := 212) (by decide +kernel))) rfl⟩
theorem fX7_41 : kv_FL RX7 41 7 10 (.array (.object "KnockTable$Entry")) true := ⟨_, _, _, _, kC7, Nat.le_of_ble_eq_true rfl, rfl, rfl, rfl, kv_in (kv_t1 (List.mem_of_getElem? (i := 218) (by decide +kernel))) rfl⟩
theorem fX7_45 : kv_FL RX7 45 7 12 (.array .int) true := ⟨_, _, _, _, kC7, Nat.le_of_ble_eq_true rfl, rfl, rfl, rfl, kv_in (kv_t1 (List.mem_of_getElem? (i := 225) (by decide +kernel))) rfl⟩
theorem fX7_56 : kv_FL RX7 56 7 13 (.array .int) true := ⟨_, _, _, _, kC7, Nat.le_of_ble_eq_true rfl, rfl, rfl, rfl, kv_in (kv_t1 (List.mem_of_getElem? (i := 228) (by decide +kernel))) rfl⟩
theorem fX7_59 : kv_FL RX7 59 7 14 (.array .int) true := ⟨_, _, _, _, kC7, Nat.le_of_ble_eq_true rfl, rfl, rfl, rfl, kv_in (kv_t1 (List.mem_of_getElem? (i := 231) (by decide +kernel))) rfl⟩
theorem fX7_62 : kv_FL RX7 62 7 16 (.array .int) true := ⟨_, _, _, _, kC7, Nat.le_of_ble_eq_true rfl, rfl, rfl, rfl, kv_in (kv_t1 (List.mem_of_getElem? (i := 235) (by decide +kernel))) rfl⟩
theorem fX7_65 : kv_FL RX7 65 7 18 .int false := ⟨_, _, _, _, kC7, Nat.le_of_ble_eq_true rfl, rfl, rfl, rfl, kv_in (kv_t1 (List.mem_of_getElem? (i := 239) (by decide +kernel))) rfl⟩
theorem fX7_77 : kv_FL RX7 77 7 1 .int false := ⟨_, _, _, _, kC7, Nat.le_of_ble_eq_true rfl, rfl, rfl, rfl, kv_in (kv_t1 (List.mem_of_getElem? (i := 190) (by decide +kernel))) rfl⟩
theorem fX7_84 : kv_FL RX7 84 7 7 .int false := ⟨_, _, _, _, kC7, Nat.le_of_ble_eq_true rfl, rfl, rfl, rfl, kv_in (kv_t1 (List.mem_of_getElem? (i := 209) (by decide +kernel))) rfl⟩
theorem fX7_90 : kv_FL RX7 90 7 9 .int false := ⟨_, _, _, _, kC7, Nat.le_of_ble_eq_true rfl, rfl, rfl, rfl, kv_in (kv_t1 (List.mem_of_getElem? (i := 215) (by decide +kernel))) rfl⟩
theorem fX7_96 : kv_FL RX7 96 7 11 .int false := ⟨_, _, _, _, kC7, Nat.le_of_ble_eq_true rfl, rfl, rfl, rfl, kv_in (kv_t1 (List.mem_of_getElem? (i := 223) (by decide +kernel))) rfl⟩
theorem fX7_108 : kv_FL RX7 108 7 5 .int false := ⟨_, _, _, _, kC7, Nat.le_of_ble_eq_true rfl, rfl, rfl, rfl, kv_in (kv_t1 (List.mem_of_getElem? (i := 202) (by decide +kernel))) rfl⟩
theorem fX7_111 : kv_FL RX7 111 7 15 .int false := ⟨_, _, _, _, kC7, Nat.le_of_ble_eq_true rfl, rfl, rfl, rfl, kv_in (kv_t1 (List.mem_of_getElem? (i := 233) (by decide +kernel))) rfl⟩
theorem fX7_114 : kv_FL RX7 114 7 17 .int false := ⟨_, _, _, _, kC7, Nat.le_of_ble_eq_true rfl, rfl, rfl, rfl, kv_in (kv_t1 (List.mem_of_getElem? (i := 237) (by decide +kernel))) rfl⟩
theorem fX7_117 : kv_FL RX7 117 2 0 .int false := ⟨_, _, _, _, kC2, Nat.le_of_ble_eq_true rfl, rfl, rfl, rfl, kv_in (kv_t1 (List.mem_of_getElem? (i := 150) (by decide +kernel))) rfl⟩
theorem fX7_120 : kv_FL RX7 120 2 1 .int false := ⟨_, _, _, _, kC2, Nat.le_of_ble_eq_true rfl, rfl, rfl, rfl, kv_in (kv_t1 (List.mem_of_getElem? (i := 155) (by decide +kernel))) rfl⟩
theorem fX7_123 : kv_FL RX7 123 2 5 .int false := ⟨_, _, _, _, kC2, Nat.le_of_ble_eq_true rfl, rfl, rfl, rfl, kv_in (kv_t1 (List.mem_of_getElem? (i := 169) (by decide +kernel))) rfl⟩
theorem fX8_9 : kv_FL RX8 9 8 1 (.array .int) true := ⟨_, _, _, _, kC8, Nat.le_of_ble_eq_true rfl, rfl, rfl, rfl, kv_in (kv_t2 (List.mem_of_getElem? (i := 142) (by decide +kernel))) rfl⟩
theorem fX8_15 : kv_FL RX8 15 8 2 (.array .int) true := ⟨_, _, _, _, kC8, Nat.le_of_ble_eq_true rfl, rfl, rfl, rfl, kv_in (kv_t2 (List.mem_of_getElem? (i := 143) (by decide +kernel))) rfl⟩
theorem fX8_18 : kv_FL RX8 18 8 0 (.object "KnockTable$Store") true := ⟨_, _, _, _, kC8, Nat.le_of_ble_eq_true rfl, rfl, rfl, rfl, kv_in (kv_t2 (List.mem_of_getElem? (i := 141) (by decide +kernel))) rfl⟩
theorem fX8_22 : kv_FL RX8 22 7 6 (.array (.object "KnockTable$Crash")) true := ⟨_, _, _, _, kC7, Nat.le_of_ble_eq_true rfl, rfl, rfl, rfl, kv_in (kv_t1 (List.mem_of_getElem? (i := 205) (by decide +kernel))) rfl⟩
theorem fX8_28 : kv_FL RX8 28 1 4 .int false := ⟨_, _, _, _, kC1, Nat.le_of_ble_eq_true rfl, rfl, rfl, rfl, kv_in (kv_t1 (List.mem_of_getElem? (i := 108) (by decide +kernel))) rfl⟩
theorem fX8_40 : kv_FL RX8 40 1 3 .int false := ⟨_, _, _, _, kC1, Nat.le_of_ble_eq_true rfl, rfl, rfl, rfl, kv_in (kv_t1 (List.mem_of_getElem? (i := 105) (by decide +kernel))) rfl⟩
theorem fX8_58 : kv_FL RX8 58 7 7 .int false := ⟨_, _, _, _, kC7, Nat.le_of_ble_eq_true rfl, rfl, rfl, rfl, kv_in (kv_t1 (List.mem_of_getElem? (i := 210) (by decide +kernel))) rfl⟩
theorem fX8_65 : kv_FL RX8 65 1 0 (.array .int) true := ⟨_, _, _, _, kC1, Nat.le_of_ble_eq_true rfl, rfl, rfl, rfl, kv_in (kv_t1 (List.mem_of_getElem? (i := 95) (by decide +kernel))) rfl⟩
theorem fX8_68 : kv_FL RX8 68 7 0 (.array (.object "KnockTable$Car")) true := ⟨_, _, _, _, kC7, Nat.le_of_ble_eq_true rfl, rfl, rfl, rfl, kv_in (kv_t1 (List.mem_of_getElem? (i := 188) (by decide +kernel))) rfl⟩
theorem fX8_80 : kv_FL RX8 80 8 3 .int false := ⟨_, _, _, _, kC8, Nat.le_of_ble_eq_true rfl, rfl, rfl, rfl, kv_in (kv_t2 (List.mem_of_getElem? (i := 144) (by decide +kernel))) rfl⟩
theorem fX8_83 : kv_FL RX8 83 8 4 .int false := ⟨_, _, _, _, kC8, Nat.le_of_ble_eq_true rfl, rfl, rfl, rfl, kv_in (kv_t2 (List.mem_of_getElem? (i := 145) (by decide +kernel))) rfl⟩
theorem fX9_9 : kv_FL RX9 9 9 0 (.array .int) true := ⟨_, _, _, _, kC9, Nat.le_of_ble_eq_true rfl, rfl, rfl, rfl, kv_in (kv_t1 (List.mem_of_getElem? (i := 127) (by decide +kernel))) rfl⟩
theorem fX9_15 : kv_FL RX9 15 9 2 .int false := ⟨_, _, _, _, kC9, Nat.le_of_ble_eq_true rfl, rfl, rfl, rfl, kv_in (kv_t1 (List.mem_of_getElem? (i := 129) (by decide +kernel))) rfl⟩
theorem fX9_19 : kv_FL RX9 19 9 3 .int false := ⟨_, _, _, _, kC9, Nat.le_of_ble_eq_true rfl, rfl, rfl, rfl, kv_in (kv_t1 (List.mem_of_getElem? (i := 132) (by decide +kernel))) rfl⟩
theorem fX9_22 : kv_FL RX9 22 9 1 .int false := ⟨_, _, _, _, kC9, Nat.le_of_ble_eq_true rfl, rfl, rfl, rfl, kv_in (kv_t1 (List.mem_of_getElem? (i := 128) (by decide +kernel))) rfl⟩
theorem fX10_9 : kv_FL RX10 9 10 0 (.array .int) true := ⟨_, _, _, _, kC10, Nat.le_of_ble_eq_true rfl, rfl, rfl, rfl, kv_in (kv_t2 (List.mem_of_getElem? (i := 163) (by decide +kernel))) rfl⟩
theorem fX10_15 : kv_FL RX10 15 10 4 .int false := ⟨_, _, _, _, kC10, Nat.le_of_ble_eq_true rfl, rfl, rfl, rfl, kv_in (kv_t2 (List.mem_of_getElem? (i := 170) (by decide +kernel))) rfl⟩
theorem fX10_19 : kv_FL RX10 19 10 5 .int false := ⟨_, _, _, _, kC10, Nat.le_of_ble_eq_true rfl, rfl, rfl, rfl, kv_in (kv_t2 (List.mem_of_getElem? (i := 171) (by decide +kernel))) rfl⟩
theorem fX10_22 : kv_FL RX10 22 10 3 .int false := ⟨_, _, _, _, kC10, Nat.le_of_ble_eq_true rfl, rfl, rfl, rfl, kv_in (kv_t2 (List.mem_of_getElem? (i := 169) (by decide +kernel))) rfl⟩
theorem fX10_25 : kv_FL RX10 25 10 1 .int false := ⟨_, _, _, _, kC10, Nat.le_of_ble_eq_true rfl, rfl, rfl, rfl, kv_in (kv_t2 (List.mem_of_getElem? (i := 165) (by decide +kernel))) rfl⟩
theorem fX10_28 : kv_FL RX10 28 10 2 .boolean false := ⟨_, _, _, _, kC10, Nat.le_of_ble_eq_true rfl, rfl, rfl, rfl, kv_in (kv_t2 (List.mem_of_getElem? (i := 167) (by decide +kernel))) rfl⟩
theorem fX12_9 : kv_FL RX12 9 12 0 (.array .int) true := ⟨_, _, _, _, kC12, Nat.le_of_ble_eq_true rfl, rfl, rfl, rfl, kv_in (kv_t5 (List.mem_of_getElem? (i := 96) (by decide +kernel))) rfl⟩
theorem fX12_13 : kv_FL RX12 13 12 1 (.array .int) true := ⟨_, _, _, _, kC12, Nat.le_of_ble_eq_true rfl, rfl, rfl, rfl, kv_in (kv_t5 (List.mem_of_getElem? (i := 97) (by decide +kernel))) rfl⟩
theorem fX12_16 : kv_FL RX12 16 12 3 (.array .int) true := ⟨_, _, _, _, kC12, Nat.le_of_ble_eq_true rfl, rfl, rfl, rfl, kv_in (kv_t5 (List.mem_of_getElem? (i := 99) (by decide +kernel))) rfl⟩
theorem fX12_19 : kv_FL RX12 19 12 4 (.array .int) true := ⟨_, _, _, _, kC12, Nat.le_of_ble_eq_true rfl, rfl, rfl, rfl, kv_in (kv_t5 (List.mem_of_getElem? (i := 100) (by decide +kernel))) rfl⟩
theorem fX12_30 : kv_FL RX12 30 12 5 (.array (.object "java/lang/String")) true := ⟨_, _, _, _, kC12, Nat.le_of_ble_eq_true rfl, rfl, rfl, rfl, kv_in (kv_t5 (List.mem_of_getElem? (i := 101) (by decide +kernel))) rfl⟩
theorem fX12_34 : kv_FL RX12 34 12 12 (.array .int) true := ⟨_, _, _, _, kC12, Nat.le_of_ble_eq_true rfl, rfl, rfl, rfl, kv_in (kv_t5 (List.mem_of_getElem? (i := 108) (by decide +kernel))) rfl⟩
theorem fX12_37 : kv_FL RX12 37 12 13 (.array .int) true := ⟨_, _, _, _, kC12, Nat.le_of_ble_eq_true rfl, rfl, rfl, rfl, kv_in (kv_t5 (List.mem_of_getElem? (i := 109) (by decide +kernel))) rfl⟩
theorem fX12_40 : kv_FL RX12 40 12 14 (.array .long) true := ⟨_, _, _, _, kC12, Nat.le_of_ble_eq_true rfl, rfl, rfl, rfl, kv_in (kv_t5 (List.mem_of_getElem? (i := 110) (by decide +kernel))) rfl⟩
theorem fX12_44 : kv_FL RX12 44 12 15 (.array .long) true := ⟨_, _, _, _, kC12, Nat.le_of_ble_eq_true rfl, rfl, rfl, rfl, kv_in (kv_t5 (List.mem_of_getElem? (i := 111) (by decide +kernel))) rfl⟩
theorem fX12_47 : kv_FL RX12 47 12 16 (.array .int) true := ⟨_, _, _, _, kC12, Nat.le_of_ble_eq_true rfl, rfl, rfl, rfl, kv_in (kv_t5 (List.mem_of_getElem? (i := 112) (by decide +kernel))) rfl⟩
theorem fX12_50 : kv_FL RX12 50 12 17 (.array .int) true := ⟨_, _, _, _, kC12, Nat.le_of_ble_eq_true rfl, rfl, rfl, rfl, kv_in (kv_t5 (List.mem_of_getElem? (i := 113) (by decide +kernel))) rfl⟩
theorem fX12_53 : kv_FL RX12 53 12 18 (.array .int) true := ⟨_, _, _, _, kC12, Nat.le_of_ble_eq_true rfl, rfl, rfl, rfl, kv_in (kv_t5 (List.mem_of_getElem? (i := 114) (by decide +kernel))) rfl⟩
theorem fX12_56 : kv_FL RX12 56 12 20 (.array .int) true := ⟨_, _, _, _, kC12, Nat.le_of_ble_eq_true rfl, rfl, rfl, rfl, kv_in (kv_t5 (List.mem_of_getElem? (i := 116) (by decide +kernel))) rfl⟩
theorem fX12_59 : kv_FL RX12 59 12 21 (.array .int) true := ⟨_, _, _, _, kC12, Nat.le_of_ble_eq_true rfl, rfl, rfl, rfl, kv_in (kv_t5 (List.mem_of_getElem? (i := 117) (by decide +kernel))) rfl⟩
theorem fX12_62 : kv_FL RX12 62 12 23 (.array .int) true := ⟨_, _, _, _, kC12, Nat.le_of_ble_eq_true rfl, rfl, rfl, rfl, kv_in (kv_t5 (List.mem_of_getElem? (i := 119) (by decide +kernel))) rfl⟩
theorem fX12_65 : kv_FL RX12 65 12 28 (.array .int) true := ⟨_, _, _, _, kC12, Nat.le_of_ble_eq_true rfl, rfl, rfl, rfl, kv_in (kv_t5 (List.mem_of_getElem? (i := 124) (by decide +kernel))) rfl⟩
theorem fX12_68 : kv_FL RX12 68 12 29 (.array .int) true := ⟨_, _, _, _, kC12, Nat.le_of_ble_eq_true rfl, rfl, rfl, rfl, kv_in (kv_t5 (List.mem_of_getElem? (i := 125) (by decide +kernel))) rfl⟩
theorem fX12_71 : kv_FL RX12 71 12 30 (.array .int) true := ⟨_, _, _, _, kC12, Nat.le_of_ble_eq_true rfl, rfl, rfl, rfl, kv_in (kv_t5 (List.mem_of_getElem? (i := 126) (by decide +kernel))) rfl⟩
theorem fX12_74 : kv_FL RX12 74 12 31 (.array .int) true := ⟨_, _, _, _, kC12, Nat.le_of_ble_eq_true rfl, rfl, rfl, rfl, kv_in (kv_t5 (List.mem_of_getElem? (i := 127) (by decide +kernel))) rfl⟩
theorem fX12_186 : kv_FL RX12 186 12 7 .int false := ⟨_, _, _, _, kC12, Nat.le_of_ble_eq_true rfl, rfl, rfl, rfl, kv_in (kv_t5 (List.mem_of_getElem? (i := 103) (by decide +kernel))) rfl⟩
theorem fX12_190 : kv_FL RX12 190 12 6 .int false := ⟨_, _, _, _, kC12, Nat.le_of_ble_eq_true rfl, rfl, rfl, rfl, kv_in (kv_t5 (List.mem_of_getElem? (i := 102) (by decide +kernel))) rfl⟩
theorem fX12_196 : kv_FL RX12 196 12 10 .boolean false := ⟨_, _, _, _, kC12, Nat.le_of_ble_eq_true rfl, rfl, rfl, rfl, kv_in (kv_t5 (List.mem_of_getElem? (i := 106) (by decide +kernel))) rfl⟩
theorem fX12_217 : kv_FL RX12 217 12 11 .int false := ⟨_, _, _, _, kC12, Nat.le_of_ble_eq_true rfl, rfl, rfl, rfl, kv_in (kv_t5 (List.mem_of_getElem? (i := 107) (by decide +kernel))) rfl⟩
theorem fX12_257 : kv_FL RX12 257 12 9 .int false := ⟨_, _, _, _, kC12, Nat.le_of_ble_eq_true rfl, rfl, rfl, rfl, kv_in (kv_t5 (List.mem_of_getElem? (i := 105) (by decide +kernel))) rfl⟩
theorem fX12_284 : kv_FL RX12 284 12 8 .int false := ⟨_, _, _, _, kC12, Nat.le_of_ble_eq_true rfl, rfl, rfl, rfl, kv_in (kv_t5 (List.mem_of_getElem? (i := 104) (by decide +kernel))) rfl⟩
theorem fX12_342 : kv_FL RX12 342 12 19 .int false := ⟨_, _, _, _, kC12, Nat.le_of_ble_eq_true rfl, rfl, rfl, rfl, kv_in (kv_t5 (List.mem_of_getElem? (i := 115) (by decide +kernel))) rfl⟩
theorem fX12_349 : kv_FL RX12 349 12 22 .int false := ⟨_, _, _, _, kC12, Nat.le_of_ble_eq_true rfl, rfl, rfl, rfl, kv_in (kv_t5 (List.mem_of_getElem? (i := 118) (by decide +kernel))) rfl⟩
theorem fX12_362 : kv_FL RX12 362 12 24 .int false := ⟨_, _, _, _, kC12, Nat.le_of_ble_eq_true rfl, rfl, rfl, rfl, kv_in (kv_t5 (List.mem_of_getElem? (i := 120) (by decide +kernel))) rfl⟩
theorem fX12_365 : kv_FL RX12 365 12 26 .int false := ⟨_, _, _, _, kC12, Nat.le_of_ble_eq_true rfl, rfl, rfl, rfl, kv_in (kv_t5 (List.mem_of_getElem? (i := 122) (by decide +kernel))) rfl⟩
theorem fX12_374 : kv_FL RX12 374 12 27 .boolean false := ⟨_, _, _, _, kC12, Nat.le_of_ble_eq_true rfl, rfl, rfl, rfl, kv_in (kv_t5 (List.mem_of_getElem? (i := 123) (by decide +kernel))) rfl⟩
theorem fX12_380 : kv_FL RX12 380 12 25 .int false := ⟨_, _, _, _, kC12, Nat.le_of_ble_eq_true rfl, rfl, rfl, rfl, kv_in (kv_t5 (List.mem_of_getElem? (i := 121) (by decide +kernel))) rfl⟩
theorem fX12_395 : kv_FL RX12 395 12 2 .int false := ⟨_, _, _, _, kC12, Nat.le_of_ble_eq_true rfl, rfl, rfl, rfl, kv_in (kv_t5 (List.mem_of_getElem? (i := 98) (by decide +kernel))) rfl⟩
theorem kX11_73 : Cond.constant RX11 73 (99999) ∈ kv_tb := kv_in (kv_t3 (List.mem_of_getElem? (i := 6) (by decide +kernel))) rfl
theorem kX11_74 : Cond.constant RX11 74 (-1000001) ∈ kv_tb := kv_in (kv_t3 (List.mem_of_getElem? (i := 7) (by decide +kernel))) rfl
theorem kX11_83 : Cond.constant RX11 83 (-1000004) ∈ kv_tb := kv_in (kv_t3 (List.mem_of_getElem? (i := 13) (by decide +kernel))) rfl
theorem kX11_120 : Cond.constant RX11 120 (65535) ∈ kv_tb := kv_in (kv_t3 (List.mem_of_getElem? (i := 41) (by decide +kernel))) rfl
theorem kX11_133 : Cond.constant RX11 133 (-1000005) ∈ kv_tb := kv_in (kv_t3 (List.mem_of_getElem? (i := 46) (by decide +kernel))) rfl
theorem kX11_217 : Cond.constant RX11 217 (999999) ∈ kv_tb := kv_in (kv_t3 (List.mem_of_getElem? (i := 159) (by decide +kernel))) rfl
theorem kX11_248 : Cond.constant RX11 248 (-1000002) ∈ kv_tb := kv_in (kv_t4 (List.mem_of_getElem? (i := 1) (by decide +kernel))) rfl
theorem kX11_255 : Cond.constant RX11 255 (33999) ∈ kv_tb := kv_in (kv_t4 (List.mem_of_getElem? (i := 12) (by decide +kernel))) rfl
theorem kX11_381 : Cond.constant RX11 381 (-1000006) ∈ kv_tb := kv_in (kv_t4 (List.mem_of_getElem? (i := 222) (by decide +kernel))) rfl
theorem kX11_389 : Cond.constant RX11 389 (-1000003) ∈ kv_tb := kv_in (kv_t4 (List.mem_of_getElem? (i := 236) (by decide +kernel))) rfl
theorem kX11_432 : Cond.constant RX11 432 (-1000000) ∈ kv_tb := kv_in (kv_t3 (List.mem_of_getElem? (i := 12) (by decide +kernel))) rfl
theorem kX7_126 : Cond.constant RX7 126 (1103515245) ∈ kv_tb := kv_in (kv_t4 (List.mem_of_getElem? (i := 97) (by decide +kernel))) rfl
theorem kX12_77 : Cond.constant RX12 77 (-1000000) ∈ kv_tb := kv_in (kv_t5 (List.mem_of_getElem? (i := 207) (by decide +kernel))) rfl
theorem kX12_82 : Cond.constant RX12 82 (99999) ∈ kv_tb := kv_in (kv_t5 (List.mem_of_getElem? (i := 201) (by decide +kernel))) rfl
theorem kX12_83 : Cond.constant RX12 83 (-1000001) ∈ kv_tb := kv_in (kv_t5 (List.mem_of_getElem? (i := 202) (by decide +kernel))) rfl
theorem kX12_88 : Cond.constant RX12 88 (-1000004) ∈ kv_tb := kv_in (kv_t5 (List.mem_of_getElem? (i := 208) (by decide +kernel))) rfl
theorem kX12_103 : Cond.constant RX12 103 (65535) ∈ kv_tb := kv_in (kv_t5 (List.mem_of_getElem? (i := 237) (by decide +kernel))) rfl
theorem kX12_104 : Cond.constant RX12 104 (-1000005) ∈ kv_tb := kv_in (kv_t6 (List.mem_of_getElem? (i := 2) (by decide +kernel))) rfl
theorem kX12_183 : Cond.constant RX12 183 (999999) ∈ kv_tb := kv_in (kv_t6 (List.mem_of_getElem? (i := 113) (by decide +kernel))) rfl
theorem kX12_287 : Cond.constant RX12 287 (-1000002) ∈ kv_tb := kv_in (kv_t7 (List.mem_of_getElem? (i := 6) (by decide +kernel))) rfl
theorem kX12_291 : Cond.constant RX12 291 (33999) ∈ kv_tb := kv_in (kv_t7 (List.mem_of_getElem? (i := 15) (by decide +kernel))) rfl
theorem kX12_323 : Cond.constant RX12 323 (1103515245) ∈ kv_tb := kv_in (kv_t7 (List.mem_of_getElem? (i := 85) (by decide +kernel))) rfl
theorem kX12_389 : Cond.constant RX12 389 (-1000006) ∈ kv_tb := kv_in (kv_t7 (List.mem_of_getElem? (i := 158) (by decide +kernel))) rfl
theorem kX12_390 : Cond.constant RX12 390 (-1000003) ∈ kv_tb := kv_in (kv_t7 (List.mem_of_getElem? (i := 167) (by decide +kernel))) rfl
theorem kJ6_264 : Cond.constant RJ6 264 (65536) ∈ kv_tb := kv_in (kv_t4 (List.mem_of_getElem? (i := 82) (by decide +kernel))) rfl
theorem kJ6_265 : Cond.constant RJ6 265 (1431655765) ∈ kv_tb := kv_in (kv_t3 (List.mem_of_getElem? (i := 109) (by decide +kernel))) rfl
theorem kJ6_266 : Cond.constant RJ6 266 (858993459) ∈ kv_tb := kv_in (kv_t3 (List.mem_of_getElem? (i := 110) (by decide +kernel))) rfl
theorem kJ6_267 : Cond.constant RJ6 267 (252645135) ∈ kv_tb := kv_in (kv_t3 (List.mem_of_getElem? (i := 111) (by decide +kernel))) rfl
theorem kX11_304 : Cond.constantLong RX11 304 (1000) ∈ kv_tb := kv_in (kv_t4 (List.mem_of_getElem? (i := 50) (by decide +kernel))) rfl
theorem kX11_306 : Cond.constantLong RX11 306 (2000000000) ∈ kv_tb := kv_in (kv_t4 (List.mem_of_getElem? (i := 51) (by decide +kernel))) rfl
theorem kL_60 : Cond.constantLong RL 60 (4294967295) ∈ kv_tb := kv_in (kv_t7 (List.mem_of_getElem? (i := 203) (by decide +kernel))) rfl
theorem kX12_166 : Cond.constantLong RX12 166 (100) ∈ kv_tb := kv_in (kv_t6 (List.mem_of_getElem? (i := 96) (by decide +kernel))) rfl
theorem kX12_184 : Cond.constantLong RX12 184 (255) ∈ kv_tb := kv_in (kv_t6 (List.mem_of_getElem? (i := 118) (by decide +kernel))) rfl
theorem kX12_307 : Cond.constantLong RX12 307 (2000000000) ∈ kv_tb := kv_in (kv_t7 (List.mem_of_getElem? (i := 47) (by decide +kernel))) rfl
theorem kX12_309 : Cond.constantLong RX12 309 (1000) ∈ kv_tb := kv_in (kv_t7 (List.mem_of_getElem? (i := 48) (by decide +kernel))) rfl
