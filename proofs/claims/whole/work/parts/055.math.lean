theorem km_mmax : Cond.code Lib.Math.max.name Lib.Math.max.code 2 (some .int) ∈ kv_tb ∧ Cond.static Lib.Math.max.name ∈ kv_tb ∧ Cond.initialized "java/lang/Math" ∈ kv_tb := ⟨kv_in (kv_t3 (List.mem_of_getElem? (i := 94) (by decide +kernel))) rfl, kv_in (kv_t3 (List.mem_of_getElem? (i := 93) (by decide +kernel))) rfl, wJ9_max_7cf53.1.2.1⟩
theorem kw_mmax {w : KW} {l : Launch} {mm : KM} {dd nc ns pc : Nat} {ls : List (Option Value)} {rest : List Value} {u : KMem} {Q : Option Value → KMem → Prop} {idx : Nat} {x y : Int32} (d : decode mm.2.1 pc = .ok (.invokestatic idx, 3)) (hl : Cond.methodLink mm.1.cls idx Lib.Math.max.name ∈ kv_tb) (h8 : Nat.ble (kv_r8 rest) 8 = true) (hd : 1 ≤ dd)
    (kk : KV w l mm dd nc ns (pc + 3) ls (.int (if x < y then y else x) :: rest) u Q) : KV w l mm dd nc ns pc ls (.int y :: .int x :: rest) u Q := by
  intro p e R s m args below meth c H locs cells slots mc ms arr F S M L c1 c2
  have h8 : kv_r8 rest ≤ 8 := Nat.le_of_ble_eq_true h8
  obtain ⟨hx0, hb, hr, hlo, hml, hown, hnme, hts, hfr, hlc, hmc, hms, hK, hKC, -⟩ := id F
  refine va_mmax hx0 hb (hml.trans L.1.symm) hown (hts _ hl) (hts _ km_mmax.2.1) (hts _ km_mmax.2.2) (hts _ km_mmax.1) (by omega) (by rw [kv_r8_eq]; omega) (by omega) (by omega) d ?_
  exact kk p e R s m args below meth c H locs cells slots mc ms arr F S M L c1 c2
theorem km_mmin : Cond.code Lib.Math.min.name Lib.Math.min.code 2 (some .int) ∈ kv_tb ∧ Cond.static Lib.Math.min.name ∈ kv_tb ∧ Cond.initialized "java/lang/Math" ∈ kv_tb := ⟨kv_in (kv_t3 (List.mem_of_getElem? (i := 87) (by decide +kernel))) rfl, kv_in (kv_t3 (List.mem_of_getElem? (i := 86) (by decide +kernel))) rfl, wJ9_max_7cf53.1.2.1⟩
theorem kw_mmin {w : KW} {l : Launch} {mm : KM} {dd nc ns pc : Nat} {ls : List (Option Value)} {rest : List Value} {u : KMem} {Q : Option Value → KMem → Prop} {idx : Nat} {x y : Int32} (d : decode mm.2.1 pc = .ok (.invokestatic idx, 3)) (hl : Cond.methodLink mm.1.cls idx Lib.Math.min.name ∈ kv_tb) (h8 : Nat.ble (kv_r8 rest) 8 = true) (hd : 1 ≤ dd)
    (kk : KV w l mm dd nc ns (pc + 3) ls (.int (if y < x then y else x) :: rest) u Q) : KV w l mm dd nc ns pc ls (.int y :: .int x :: rest) u Q := by
  intro p e R s m args below meth c H locs cells slots mc ms arr F S M L c1 c2
  have h8 : kv_r8 rest ≤ 8 := Nat.le_of_ble_eq_true h8
  obtain ⟨hx0, hb, hr, hlo, hml, hown, hnme, hts, hfr, hlc, hmc, hms, hK, hKC, -⟩ := id F
  refine va_mmin hx0 hb (hml.trans L.1.symm) hown (hts _ hl) (hts _ km_mmin.2.1) (hts _ km_mmin.2.2) (hts _ km_mmin.1) (by omega) (by rw [kv_r8_eq]; omega) (by omega) (by omega) d ?_
  exact kk p e R s m args below meth c H locs cells slots mc ms arr F S M L c1 c2
theorem km_mabs : Cond.code Lib.Math.abs.name Lib.Math.abs.code 1 (some .int) ∈ kv_tb ∧ Cond.static Lib.Math.abs.name ∈ kv_tb ∧ Cond.initialized "java/lang/Math" ∈ kv_tb := ⟨kv_in (kv_t4 (List.mem_of_getElem? (i := 116) (by decide +kernel))) rfl, kv_in (kv_t4 (List.mem_of_getElem? (i := 115) (by decide +kernel))) rfl, wJ9_max_7cf53.1.2.1⟩
theorem kw_mabs {w : KW} {l : Launch} {mm : KM} {dd nc ns pc : Nat} {ls : List (Option Value)} {rest : List Value} {u : KMem} {Q : Option Value → KMem → Prop} {idx : Nat} {x : Int32} (d : decode mm.2.1 pc = .ok (.invokestatic idx, 3)) (hl : Cond.methodLink mm.1.cls idx Lib.Math.abs.name ∈ kv_tb) (h8 : Nat.ble (kv_r8 rest) 8 = true) (hd : 1 ≤ dd)
    (kk : KV w l mm dd nc ns (pc + 3) ls (.int (if 0 ≤ x then x else 0 - x) :: rest) u Q) : KV w l mm dd nc ns pc ls (.int x :: rest) u Q := by
  intro p e R s m args below meth c H locs cells slots mc ms arr F S M L c1 c2
  have h8 : kv_r8 rest ≤ 8 := Nat.le_of_ble_eq_true h8
  obtain ⟨hx0, hb, hr, hlo, hml, hown, hnme, hts, hfr, hlc, hmc, hms, hK, hKC, -⟩ := id F
  refine va_mabs hx0 hb (hml.trans L.1.symm) hown (hts _ hl) (hts _ km_mabs.2.1) (hts _ km_mabs.2.2) (hts _ km_mabs.1) (by omega) (by rw [kv_r8_eq]; omega) (by omega) (by omega) d ?_
  exact kk p e R s m args below meth c H locs cells slots mc ms arr F S M L c1 c2
theorem km_mmin_long : Cond.code Lib.MathLoose.min_long.x Lib.MathLoose.min_long.code 4 (some .long) ∈ kv_tb ∧ Cond.static Lib.MathLoose.min_long.x ∈ kv_tb ∧ Cond.initialized "java/lang/Math" ∈ kv_tb := ⟨kv_in (kv_t4 (List.mem_of_getElem? (i := 54) (by decide +kernel))) rfl, kv_in (kv_t4 (List.mem_of_getElem? (i := 53) (by decide +kernel))) rfl, wJ9_max_7cf53.1.2.1⟩
theorem kw_mmin_long {w : KW} {l : Launch} {mm : KM} {dd nc ns pc : Nat} {ls : List (Option Value)} {rest : List Value} {u : KMem} {Q : Option Value → KMem → Prop} {idx : Nat} {x y : Int64} (d : decode mm.2.1 pc = .ok (.invokestatic idx, 3)) (hl : Cond.methodLink mm.1.cls idx Lib.MathLoose.min_long.x ∈ kv_tb) (h8 : Nat.ble (kv_r8 rest) 8 = true) (hd : 1 ≤ dd)
    (kk : KV w l mm dd nc ns (pc + 3) ls (.long (if y < x then y else x) :: rest) u Q) : KV w l mm dd nc ns pc ls (.long y :: .long x :: rest) u Q := by
  intro p e R s m args below meth c H locs cells slots mc ms arr F S M L c1 c2
  have h8 : kv_r8 rest ≤ 8 := Nat.le_of_ble_eq_true h8
  obtain ⟨hx0, hb, hr, hlo, hml, hown, hnme, hts, hfr, hlc, hmc, hms, hK, hKC, -⟩ := id F
  refine va_mmin_long hx0 hb (hml.trans L.1.symm) hown (hts _ hl) (hts _ km_mmin_long.2.1) (hts _ km_mmin_long.2.2) (hts _ km_mmin_long.1) (by omega) (by rw [kv_r8_eq]; omega) (by omega) (by omega) d ?_
  exact kk p e R s m args below meth c H locs cells slots mc ms arr F S M L c1 c2
theorem km_mabs_long : Cond.code Lib.MathLoose.abs_long.x Lib.MathLoose.abs_long.code 2 (some .long) ∈ kv_tb ∧ Cond.static Lib.MathLoose.abs_long.x ∈ kv_tb ∧ Cond.initialized "java/lang/Math" ∈ kv_tb := ⟨kv_in (kv_t4 (List.mem_of_getElem? (i := 183) (by decide +kernel))) rfl, kv_in (kv_t4 (List.mem_of_getElem? (i := 182) (by decide +kernel))) rfl, wJ9_max_7cf53.1.2.1⟩
theorem kw_mabs_long {w : KW} {l : Launch} {mm : KM} {dd nc ns pc : Nat} {ls : List (Option Value)} {rest : List Value} {u : KMem} {Q : Option Value → KMem → Prop} {idx : Nat} {x : Int64} (d : decode mm.2.1 pc = .ok (.invokestatic idx, 3)) (hl : Cond.methodLink mm.1.cls idx Lib.MathLoose.abs_long.x ∈ kv_tb) (h8 : Nat.ble (kv_r8 rest) 8 = true) (hd : 1 ≤ dd)
    (kk : KV w l mm dd nc ns (pc + 3) ls (.long (if 0 < x then x else -x) :: rest) u Q) : KV w l mm dd nc ns pc ls (.long x :: rest) u Q := by
  intro p e R s m args below meth c H locs cells slots mc ms arr F S M L c1 c2
  have h8 : kv_r8 rest ≤ 8 := Nat.le_of_ble_eq_true h8
  obtain ⟨hx0, hb, hr, hlo, hml, hown, hnme, hts, hfr, hlc, hmc, hms, hK, hKC, -⟩ := id F
  refine va_mabs_long hx0 hb (hml.trans L.1.symm) hown (hts _ hl) (hts _ km_mabs_long.2.1) (hts _ km_mabs_long.2.2) (hts _ km_mabs_long.1) (by omega) (by rw [kv_r8_eq]; omega) (by omega) (by omega) d ?_
  exact kk p e R s m args below meth c H locs cells slots mc ms arr F S M L c1 c2
