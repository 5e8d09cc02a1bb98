/-! THE START: a world for the state at the law's entry, out of the Statement's premises -/
def kn_N : List Cond := flatC (Jvm.Cond.and given_1 narrow_1)
theorem ks_st {s : State} {b : Nat} (hq : ∀ (i : Nat) (x : Cond), kn_N[i]? = some x → x.before #[Value.ref b] s = true) (hts : ∀ x ∈ lw_tbl, x.before #[Value.ref b] s = true) {A : Nat → Prop} (hA : ∀ a : Nat, a < s.heap.size → ¬ A a) {C n d : String} {ty : FieldType} {t : List Int32} (i0 i1 : Nat) (ix : List Nat) (hl : Cond.laysStatic C n d ∈ lw_tbl) (hi : Cond.initialized C ∈ lw_tbl) (ha : kn_N[i0]? = some (Cond.arrayOf (.static C n d) ty)) (hle : kn_N[i1]? = some (Cond.eq (.length (.static C n d)) (.int (Int32.ofNat t.length)))) (hel : ∀ j : Nat, j < t.length → kn_N[ix.getD j 0]? = some (Cond.eq (.elem (.static C n d) (.int (Int32.ofNat j))) (.int (t.getD j 0)))) (ht : t.length < 2 ^ 31) : ∃ a : Nat, (Term.static C n d).eval #[Value.ref b] s none [] s = some (.ref a) ∧ va_Z C n d (.ref a) A s s.heap ∧ va_T ty a t.length (fun i => .int (t.getD i 0)) A s s.heap := by
  obtain ⟨a, h1, h2⟩ := va_Tof (f := fun i => Value.int (t.getD i 0)) ht (hq _ _ ha) (va_eqt (hq _ _ hle)) (fun j hj => va_eqt (hq _ _ (hel j hj))) hA
  exact ⟨a, h1, va_Zof (hts _ hl) (hts _ hi) h1 hA, h2⟩
def ks_tm (i : Nat) : Term := Term.string "KnockTableModel" ((kv_sx.map (fun q => q.1)).getD i 0)
def ks_ex : List Nat := [146, 154, 162, 171, 181, 192, 202, 213, 225, 238, 252, 267, 283, 300, 318, 337, 357, 378]
def ks_co : List Nat := [147, 155, 163, 172, 182, 193, 203, 214, 226, 239, 253, 268, 284, 301, 319, 338, 358, 379]
def ks_ar : List Nat := [148, 156, 164, 173, 183, 194, 204, 215, 227, 240, 254, 269, 285, 302, 320, 339, 359, 380]
def ks_le : List Nat := [149, 157, 165, 174, 184, 195, 205, 216, 228, 241, 255, 270, 286, 303, 321, 340, 360, 381]
def ks_el : List (List Nat) := [[150, 151, 152, 153], [158, 159, 160], [166, 167, 168], [175, 176, 177], [185, 186, 187], [196], [206], [217], [229], [242], [256], [271], [287], [304], [322], [341], [361], [382]]
def ks_ne : List (List Nat) := [[0, 161, 169, 178, 188, 197, 207, 218, 230, 243, 257, 272, 288, 305, 323, 342, 362, 383], [0, 0, 170, 179, 189, 198, 208, 219, 231, 244, 258, 273, 289, 306, 324, 343, 363, 384], [0, 0, 0, 180, 190, 199, 209, 220, 232, 245, 259, 274, 290, 307, 325, 344, 364, 385], [0, 0, 0, 0, 191, 200, 210, 221, 233, 246, 260, 275, 291, 308, 326, 345, 365, 386], [0, 0, 0, 0, 0, 201, 211, 222, 234, 247, 261, 276, 292, 309, 327, 346, 366, 387], [0, 0, 0, 0, 0, 0, 212, 223, 235, 248, 262, 277, 293, 310, 328, 347, 367, 388], [0, 0, 0, 0, 0, 0, 0, 224, 236, 249, 263, 278, 294, 311, 329, 348, 368, 389], [0, 0, 0, 0, 0, 0, 0, 0, 237, 250, 264, 279, 295, 312, 330, 349, 369, 390], [0, 0, 0, 0, 0, 0, 0, 0, 0, 251, 265, 280, 296, 313, 331, 350, 370, 391], [0, 0, 0, 0, 0, 0, 0, 0, 0, 0, 266, 281, 297, 314, 332, 351, 371, 392], [0, 0, 0, 0, 0, 0, 0, 0, 0, 0, 0, 282, 298, 315, 333, 352, 372, 393], [0, 0, 0, 0, 0, 0, 0, 0, 0, 0, 0, 0, 299, 316, 334, 353, 373, 394], [0, 0, 0, 0, 0, 0, 0, 0, 0, 0, 0, 0, 0, 317, 335, 354, 374, 395], [0, 0, 0, 0, 0, 0, 0, 0, 0, 0, 0, 0, 0, 0, 336, 355, 375, 396], [0, 0, 0, 0, 0, 0, 0, 0, 0, 0, 0, 0, 0, 0, 0, 356, 376, 397], [0, 0, 0, 0, 0, 0, 0, 0, 0, 0, 0, 0, 0, 0, 0, 0, 377, 398], [0, 0, 0, 0, 0, 0, 0, 0, 0, 0, 0, 0, 0, 0, 0, 0, 0, 399], [0, 0, 0, 0, 0, 0, 0, 0, 0, 0, 0, 0, 0, 0, 0, 0, 0, 0]]
theorem ks_h1 : ∀ i : Nat, i < 18 → kn_N[ks_ex.getD i 0]? = some (Cond.exactly (ks_tm i) "java/lang/String") := by decide +kernel
theorem ks_h2 : ∀ i : Nat, i < 18 → kn_N[ks_co.getD i 0]? = some (Cond.eq (.field (ks_tm i) "java/lang/String" "coder" "B") (.int 0)) := by decide +kernel
theorem ks_h3 : ∀ i : Nat, i < 18 → kn_N[ks_ar.getD i 0]? = some (Cond.arrayOf (.field (ks_tm i) "java/lang/String" "value" "[B") .byte) := by decide +kernel
theorem ks_h4 : ∀ i : Nat, i < 18 → kn_N[ks_le.getD i 0]? = some (Cond.eq (.length (.field (ks_tm i) "java/lang/String" "value" "[B")) (.int (Int32.ofNat (kv_sl.getD i 0)))) := by decide +kernel
theorem ks_h5 : ∀ i : Nat, i < 18 → ∀ j : Nat, j < kv_sl.getD i 0 → kn_N[(ks_el.getD i []).getD j 0]? = some (Cond.eq (.elem (.field (ks_tm i) "java/lang/String" "value" "[B") (.int (Int32.ofNat j))) (.int ((kv_sb.getD i []).getD j 0))) := by decide +kernel
theorem ks_h6 : ∀ i : Nat, i < 18 → ∀ j : Nat, j < 18 → i < j → kn_N[(ks_ne.getD i []).getD j 0]? = some (Cond.not (Cond.eq (ks_tm i) (ks_tm j))) ∨ kn_N[(ks_ne.getD i []).getD j 0]? = some (Cond.not (Cond.eq (ks_tm j) (ks_tm i))) := by decide +kernel
theorem ks_h7 : ∀ i : Nat, i < 18 → kv_sl.getD i 0 < 2 ^ 31 := by decide +kernel
theorem ks_sr {i : Nat} {q : Nat × String × List Int32} (hq : kv_sx[i]? = some q) : Cond.stringRef "KnockTableModel" q.1 q.2.1 ∈ lw_tbl := by
  have hl : i < 18 := (List.getElem?_eq_some_iff.mp hq).1
  rcases (show i = 0 ∨ i = 1 ∨ i = 2 ∨ i = 3 ∨ i = 4 ∨ i = 5 ∨ i = 6 ∨ i = 7 ∨ i = 8 ∨ i = 9 ∨ i = 10 ∨ i = 11 ∨ i = 12 ∨ i = 13 ∨ i = 14 ∨ i = 15 ∨ i = 16 ∨ i = 17 by omega) with rfl | rfl | rfl | rfl | rfl | rfl | rfl | rfl | rfl | rfl | rfl | rfl | rfl | rfl | rfl | rfl | rfl | rfl
  · obtain rfl : ((24, "lmnv", [108, 109, 110, 118]) : Nat × String × List Int32) = q := Option.some.inj hq
    exact (kv_t5 (List.mem_of_getElem? (i := 93) (by decide +kernel)))
  · obtain rfl : ((26, "rec", [114, 101, 99]) : Nat × String × List Int32) = q := Option.some.inj hq
    exact (kv_t5 (List.mem_of_getElem? (i := 94) (by decide +kernel)))
  · obtain rfl : ((28, "ckb", [99, 107, 98]) : Nat × String × List Int32) = q := Option.some.inj hq
    exact (kv_t5 (List.mem_of_getElem? (i := 95) (by decide +kernel)))
  · obtain rfl : ((260, "max", [109, 97, 120]) : Nat × String × List Int32) = q := Option.some.inj hq
    exact (kv_t6 (List.mem_of_getElem? (i := 155) (by decide +kernel)))
  · obtain rfl : ((261, "min", [109, 105, 110]) : Nat × String × List Int32) = q := Option.some.inj hq
    exact (kv_t6 (List.mem_of_getElem? (i := 208) (by decide +kernel)))
  · obtain rfl : ((262, "(", [40]) : Nat × String × List Int32) = q := Option.some.inj hq
    exact (kv_t6 (List.mem_of_getElem? (i := 209) (by decide +kernel)))
  · obtain rfl : ((271, ",", [44]) : Nat × String × List Int32) = q := Option.some.inj hq
    exact (kv_t6 (List.mem_of_getElem? (i := 214) (by decide +kernel)))
  · obtain rfl : ((277, ")", [41]) : Nat × String × List Int32) = q := Option.some.inj hq
    exact (kv_t6 (List.mem_of_getElem? (i := 223) (by decide +kernel)))
  · obtain rfl : ((279, "!", [33]) : Nat × String × List Int32) = q := Option.some.inj hq
    exact (kv_t6 (List.mem_of_getElem? (i := 228) (by decide +kernel)))
  · obtain rfl : ((248, "-", [45]) : Nat × String × List Int32) = q := Option.some.inj hq
    exact (kv_t6 (List.mem_of_getElem? (i := 229) (by decide +kernel)))
  · obtain rfl : ((253, "*", [42]) : Nat × String × List Int32) = q := Option.some.inj hq
    exact (kv_t6 (List.mem_of_getElem? (i := 234) (by decide +kernel)))
  · obtain rfl : ((255, "/", [47]) : Nat × String × List Int32) = q := Option.some.inj hq
    exact (kv_t6 (List.mem_of_getElem? (i := 235) (by decide +kernel)))
  · obtain rfl : ((246, "+", [43]) : Nat × String × List Int32) = q := Option.some.inj hq
    exact (kv_t6 (List.mem_of_getElem? (i := 236) (by decide +kernel)))
  · obtain rfl : ((237, "<", [60]) : Nat × String × List Int32) = q := Option.some.inj hq
    exact (kv_t6 (List.mem_of_getElem? (i := 237) (by decide +kernel)))
  · obtain rfl : ((239, "=", [61]) : Nat × String × List Int32) = q := Option.some.inj hq
    exact (kv_t6 (List.mem_of_getElem? (i := 238) (by decide +kernel)))
  · obtain rfl : ((241, ">", [62]) : Nat × String × List Int32) = q := Option.some.inj hq
    exact (kv_t6 (List.mem_of_getElem? (i := 239) (by decide +kernel)))
  · obtain rfl : ((232, "&", [38]) : Nat × String × List Int32) = q := Option.some.inj hq
    exact (kv_t7 (List.mem_of_getElem? (i := 0) (by decide +kernel)))
  · obtain rfl : ((223, "|", [124]) : Nat × String × List Int32) = q := Option.some.inj hq
    exact (kv_t7 (List.mem_of_getElem? (i := 1) (by decide +kernel)))
theorem ks_cl {s : State} {b : Nat} (hts : ∀ x ∈ kv_tb, x.before #[Value.ref b] s = true) (k : Nat) : ∃ p : ClassId × (Nat → Nat), ∀ q : vw_C, vwCl[k]? = some q → u_Kn s q.1 q.2.1 q.2.2 p.1 p.2 := by
  by_cases hk : k < 13
  · rcases (show k = 0 ∨ k = 1 ∨ k = 2 ∨ k = 3 ∨ k = 4 ∨ k = 5 ∨ k = 6 ∨ k = 7 ∨ k = 8 ∨ k = 9 ∨ k = 10 ∨ k = 11 ∨ k = 12 by omega) with rfl | rfl | rfl | rfl | rfl | rfl | rfl | rfl | rfl | rfl | rfl | rfl | rfl
    · obtain ⟨cC, iS, h⟩ := u_known (ws := kv_tb) (C := RX0) (T := TX0) (N := 6) (n := 6) hts kC0.2.1 (hts _ iX0.1)
      refine ⟨(cC, iS), fun q hq => ?_⟩
      obtain rfl : ((RX0, TX0, 6) : vw_C) = q := Option.some.inj hq
      exact h
    · obtain ⟨cC, iS, h⟩ := u_known (ws := kv_tb) (C := RX1) (T := TX1) (N := 5) (n := 5) hts kC1.2.1 (hts _ iX1.1)
      refine ⟨(cC, iS), fun q hq => ?_⟩
      obtain rfl : ((RX1, TX1, 5) : vw_C) = q := Option.some.inj hq
      exact h
    · obtain ⟨cC, iS, h⟩ := u_known (ws := kv_tb) (C := RX2) (T := TX2) (N := 6) (n := 6) hts kC2.2.1 (hts _ iX2.1)
      refine ⟨(cC, iS), fun q hq => ?_⟩
      obtain rfl : ((RX2, TX2, 6) : vw_C) = q := Option.some.inj hq
      exact h
    · obtain ⟨cC, iS, h⟩ := u_known (ws := kv_tb) (C := RX3) (T := TX3) (N := 8) (n := 8) hts kC3.2.1 (hts _ iX3.1)
      refine ⟨(cC, iS), fun q hq => ?_⟩
      obtain rfl : ((RX3, TX3, 8) : vw_C) = q := Option.some.inj hq
      exact h
    · obtain ⟨cC, iS, h⟩ := u_known (ws := kv_tb) (C := RX4) (T := TX4) (N := 7) (n := 7) hts kC4.2.1 (hts _ iX4.1)
      refine ⟨(cC, iS), fun q hq => ?_⟩
      obtain rfl : ((RX4, TX4, 7) : vw_C) = q := Option.some.inj hq
      exact h
    · obtain ⟨cC, iS, h⟩ := u_known (ws := kv_tb) (C := RX5) (T := TX5) (N := 7) (n := 7) hts kC5.2.1 (hts _ iX5.1)
      refine ⟨(cC, iS), fun q hq => ?_⟩
      obtain rfl : ((RX5, TX5, 7) : vw_C) = q := Option.some.inj hq
      exact h
    · obtain ⟨cC, iS, h⟩ := u_known (ws := kv_tb) (C := RX6) (T := TX6) (N := 4) (n := 4) hts kC6.2.1 (hts _ iX6.1)
      refine ⟨(cC, iS), fun q hq => ?_⟩
      obtain rfl : ((RX6, TX6, 4) : vw_C) = q := Option.some.inj hq
      exact h
    · obtain ⟨cC, iS, h⟩ := u_known (ws := kv_tb) (C := RX7) (T := TX7) (N := 19) (n := 19) hts kC7.2.1 (hts _ iX7.1)
      refine ⟨(cC, iS), fun q hq => ?_⟩
      obtain rfl : ((RX7, TX7, 19) : vw_C) = q := Option.some.inj hq
      exact h
    · obtain ⟨cC, iS, h⟩ := u_known (ws := kv_tb) (C := RX8) (T := TX8) (N := 5) (n := 5) hts kC8.2.1 (hts _ iX8.1)
      refine ⟨(cC, iS), fun q hq => ?_⟩
      obtain rfl : ((RX8, TX8, 5) : vw_C) = q := Option.some.inj hq
      exact h
    · obtain ⟨cC, iS, h⟩ := u_known (ws := kv_tb) (C := RX9) (T := TX9) (N := 4) (n := 4) hts kC9.2.1 (hts _ iX9.1)
      refine ⟨(cC, iS), fun q hq => ?_⟩
      obtain rfl : ((RX9, TX9, 4) : vw_C) = q := Option.some.inj hq
      exact h
    · obtain ⟨cC, iS, h⟩ := u_known (ws := kv_tb) (C := RX10) (T := TX10) (N := 6) (n := 6) hts kC10.2.1 (hts _ iX10.1)
      refine ⟨(cC, iS), fun q hq => ?_⟩
      obtain rfl : ((RX10, TX10, 6) : vw_C) = q := Option.some.inj hq
      exact h
    · obtain ⟨cC, iS, h⟩ := u_known (ws := kv_tb) (C := RX11) (T := TX11) (N := 10) (n := 10) hts kC11.2.1 (hts _ iX11.1)
      refine ⟨(cC, iS), fun q hq => ?_⟩
      obtain rfl : ((RX11, TX11, 10) : vw_C) = q := Option.some.inj hq
      exact h
    · obtain ⟨cC, iS, h⟩ := u_known (ws := kv_tb) (C := RX12) (T := TX12) (N := 32) (n := 32) hts kC12.2.1 (hts _ iX12.1)
      refine ⟨(cC, iS), fun q hq => ?_⟩
      obtain rfl : ((RX12, TX12, 32) : vw_C) = q := Option.some.inj hq
      exact h
  · refine ⟨(0, fun _ => 0), fun q hq => ?_⟩
    rw [List.getElem?_eq_none (by show 13 ≤ k; omega)] at hq
    cases hq
def ks_ty : List FieldType := [.int, .long, .object "KnockTable$Car", .object "KnockTable$Crash", .object "KnockTable$Treaty", .object "KnockTable$Entry", .object "KnockTable$Sheet", .object "java/lang/String"]
theorem ks_rI {s : State} {b : Nat} {ty : FieldType} (h : (Cond.arrayClass ty).before #[Value.ref b] s = true) (hr : ∀ c : ClassId, s.vm.findClass ("[" ++ ty.toString) = some c → va_RA s c ty) : ∃ c : ClassId, ArrOfT s c ty ∧ va_RA s c ty := by
  obtain ⟨c, k, comp, h1, h2, h3⟩ := Cond.arrayClass_spec h
  exact ⟨c, fun N z => ⟨(fun k h => by cases h), k, h2, comp, h3⟩, hr c h1⟩
theorem ks_rO {s : State} {b : Nat} {C : String} (h : (Cond.arrayOver (.object C)).before #[Value.ref b] s = true) : ∃ c : ClassId, ArrOfT s c (.object C) ∧ va_RA s c (.object C) := by
  obtain ⟨comp, c, k, h1, h2, h3, h4, h5⟩ := Cond.arrayOver_spec h
  exact ⟨c, fun N z => ⟨(fun k h => by cases h), k, h3, comp, h4⟩, k, comp, h3, h4, h1, h5⟩
theorem ks_row {s : State} {b : Nat} (hts : ∀ x ∈ lw_tbl, x.before #[Value.ref b] s = true) (k : Nat) : ∃ c : ClassId, ∀ q : FieldType, ks_ty[k]? = some q → ArrOfT s c q ∧ va_RA s c q := by
  by_cases hk : k < 8
  · rcases (show k = 0 ∨ k = 1 ∨ k = 2 ∨ k = 3 ∨ k = 4 ∨ k = 5 ∨ k = 6 ∨ k = 7 by omega) with rfl | rfl | rfl | rfl | rfl | rfl | rfl | rfl
    · obtain ⟨c, h⟩ := ks_rI (ty := .int) (hts _ (kv_t1 (List.mem_of_getElem? (i := 87) (by decide +kernel)))) (fun c h => h)
      exact ⟨c, fun q hq => by obtain rfl : (.int : FieldType) = q := Option.some.inj hq; exact h⟩
    · obtain ⟨c, h⟩ := ks_rI (ty := .long) (hts _ (kv_t2 (List.mem_of_getElem? (i := 134) (by decide +kernel)))) (fun c h => h)
      exact ⟨c, fun q hq => by obtain rfl : (.long : FieldType) = q := Option.some.inj hq; exact h⟩
    · obtain ⟨c, h⟩ := ks_rO (C := "KnockTable$Car") (hts _ (kv_t1 (List.mem_of_getElem? (i := 37) (by decide +kernel))))
      exact ⟨c, fun q hq => by obtain rfl : (.object "KnockTable$Car" : FieldType) = q := Option.some.inj hq; exact h⟩
    · obtain ⟨c, h⟩ := ks_rO (C := "KnockTable$Crash") (hts _ (kv_t1 (List.mem_of_getElem? (i := 39) (by decide +kernel))))
      exact ⟨c, fun q hq => by obtain rfl : (.object "KnockTable$Crash" : FieldType) = q := Option.some.inj hq; exact h⟩
    · obtain ⟨c, h⟩ := ks_rO (C := "KnockTable$Treaty") (hts _ (kv_t1 (List.mem_of_getElem? (i := 41) (by decide +kernel))))
      exact ⟨c, fun q hq => by obtain rfl : (.object "KnockTable$Treaty" : FieldType) = q := Option.some.inj hq; exact h⟩
    · obtain ⟨c, h⟩ := ks_rO (C := "KnockTable$Entry") (hts _ (kv_t1 (List.mem_of_getElem? (i := 43) (by decide +kernel))))
      exact ⟨c, fun q hq => by obtain rfl : (.object "KnockTable$Entry" : FieldType) = q := Option.some.inj hq; exact h⟩
    · obtain ⟨c, h⟩ := ks_rO (C := "KnockTable$Sheet") (hts _ (kv_t2 (List.mem_of_getElem? (i := 186) (by decide +kernel))))
      exact ⟨c, fun q hq => by obtain rfl : (.object "KnockTable$Sheet" : FieldType) = q := Option.some.inj hq; exact h⟩
    · obtain ⟨c, h⟩ := ks_rO (C := "java/lang/String") (hts _ (kv_t5 (List.mem_of_getElem? (i := 92) (by decide +kernel))))
      exact ⟨c, fun q hq => by obtain rfl : (.object "java/lang/String" : FieldType) = q := Option.some.inj hq; exact h⟩
  · refine ⟨0, fun q hq => ?_⟩
    rw [List.getElem?_eq_none (by show 8 ≤ k; omega)] at hq
    cases hq
theorem ks_nw {s : State} {b : Nat} (hts : ∀ x ∈ lw_tbl, x.before #[Value.ref b] s = true) : kv_Nw s :=
  ⟨List.forall_mem_cons.mpr ⟨va_Nw.of rfl (hts _ (kv_t1 (List.mem_of_getElem? (i := 44) (by decide +kernel)))), List.forall_mem_cons.mpr ⟨va_Nw.of rfl (hts _ (kv_t3 (List.mem_of_getElem? (i := 223) (by decide +kernel)))), List.forall_mem_cons.mpr ⟨va_Nw.of rfl (hts _ (kv_t4 (List.mem_of_getElem? (i := 213) (by decide +kernel)))), fun _ h => absurd h List.not_mem_nil⟩⟩⟩,
   List.forall_mem_cons.mpr ⟨va_Nw.of rfl (hts _ (kv_t1 (List.mem_of_getElem? (i := 54) (by decide +kernel)))), List.forall_mem_cons.mpr ⟨va_Nw.of rfl (hts _ (kv_t1 (List.mem_of_getElem? (i := 89) (by decide +kernel)))), List.forall_mem_cons.mpr ⟨va_Nw.of rfl (hts _ (kv_t1 (List.mem_of_getElem? (i := 123) (by decide +kernel)))), List.forall_mem_cons.mpr ⟨va_Nw.of rfl (hts _ (kv_t1 (List.mem_of_getElem? (i := 144) (by decide +kernel)))), List.forall_mem_cons.mpr ⟨va_Nw.of rfl (hts _ (kv_t2 (List.mem_of_getElem? (i := 78) (by decide +kernel)))), List.forall_mem_cons.mpr ⟨va_Nw.of rfl (hts _ (kv_t2 (List.mem_of_getElem? (i := 159) (by decide +kernel)))), List.forall_mem_cons.mpr ⟨va_Nw.of rfl (hts _ (kv_t2 (List.mem_of_getElem? (i := 188) (by decide +kernel)))), List.forall_mem_cons.mpr ⟨va_Nw.of rfl (hts _ (kv_t5 (List.mem_of_getElem? (i := 64) (by decide +kernel)))), fun _ h => absurd h List.not_mem_nil⟩⟩⟩⟩⟩⟩⟩⟩,
   List.forall_mem_cons.mpr ⟨va_AO.of (hts _ (kv_t1 (List.mem_of_getElem? (i := 37) (by decide +kernel)))), List.forall_mem_cons.mpr ⟨va_AO.of (hts _ (kv_t1 (List.mem_of_getElem? (i := 39) (by decide +kernel)))), List.forall_mem_cons.mpr ⟨va_AO.of (hts _ (kv_t1 (List.mem_of_getElem? (i := 41) (by decide +kernel)))), List.forall_mem_cons.mpr ⟨va_AO.of (hts _ (kv_t1 (List.mem_of_getElem? (i := 43) (by decide +kernel)))), List.forall_mem_cons.mpr ⟨va_AO.of (hts _ (kv_t2 (List.mem_of_getElem? (i := 186) (by decide +kernel)))), List.forall_mem_cons.mpr ⟨va_AO.of (hts _ (kv_t5 (List.mem_of_getElem? (i := 92) (by decide +kernel)))), fun _ h => absurd h List.not_mem_nil⟩⟩⟩⟩⟩⟩,
   va_Nw.of rfl (hts _ (kv_t1 (List.mem_of_getElem? (i := 51) (by decide +kernel))))⟩
theorem ks_len {s : State} {b a N : Nat} {t : Term} (hN : N < 2 ^ 31) (ht : t.eval #[Value.ref b] s none [] s = some (.ref a)) (h : (Term.length t).eval #[Value.ref b] s none [] s = some (.int (Int32.ofNat N))) : ∃ cell : Cell, s.heap[a]? = some cell ∧ cell.vm ≠ .unknown ∧ cell.slots.size = N := by
  obtain ⟨a2, cell, h1, h2, h3⟩ := Term.length_spec h
  cases ht.symm.trans h1
  have hsz : cell.slots.size < 2 ^ 31 := by
    simp only [Term.eval, ht, h2, Option.bind_eq_bind, Option.bind_some] at h
    by_cases hlt : cell.slots.size < 2147483648
    · exact hlt
    · simp [hlt] at h
  obtain ⟨g1, g2, -, -⟩ := State.arrayAt?_spec h2
  refine ⟨cell, g1, g2, ?_⟩
  have e : Int32.ofNat N = Int32.ofNat cell.slots.size := Value.int.inj h3
  have e2 := congrArg Int32.toNatClampNeg e
  rw [Int32.toNatClampNeg_ofNat_of_lt hN, Int32.toNatClampNeg_ofNat_of_lt hsz] at e2
  exact e2.symm
theorem ks_w {s : State} {b : Nat} (hts : ∀ x ∈ lw_tbl, x.before #[Value.ref b] s = true) (hgv : (Jvm.Cond.and given_1 narrow_1).before #[Value.ref b] s = true) : ∃ w : KW, w.1 = s.heap.size ∧ w.2.1 300 = b ∧ kv_K w s := by
  have hq : ∀ (i : Nat) (x : Cond), kn_N[i]? = some x → x.before #[Value.ref b] s = true := fun i x h => flat_of_before _ hgv x (List.mem_of_getElem? h)
  have hA : ∀ a : Nat, a < s.heap.size → ¬ (fun q : Nat => s.heap.size ≤ q) a := fun a h g => absurd h (Nat.not_lt.mpr g)
  obtain ⟨a0, e0, z0, t0⟩ := ks_st (C := "KnockTable") (n := "RATES_AT_FIRST") (d := "[I") (t := [10, 15, 70, 20, 30, 0, 1]) (ty := .int) hq hts hA 5 6 [7, 8, 9, 10, 11, 12, 13] (kv_t1 (List.mem_of_getElem? (i := 45) (by decide +kernel))) (kv_t1 (List.mem_of_getElem? (i := 1) (by decide +kernel))) (by decide +kernel) (by decide +kernel) (by decide +kernel) (by decide)
  obtain ⟨a1, e1, z1, t1⟩ := ks_st (C := "KnockTable") (n := "ZONE_TOPS") (d := "[I") (t := [9999, 99, 60]) (ty := .int) hq hts hA 15 16 [17, 18, 19] (kv_t3 (List.mem_of_getElem? (i := 132) (by decide +kernel))) (kv_t1 (List.mem_of_getElem? (i := 1) (by decide +kernel))) (by decide +kernel) (by decide +kernel) (by decide +kernel) (by decide)
  obtain ⟨a2, e2, z2, t2⟩ := ks_st (C := "KnockTable") (n := "RATE_TOPS") (d := "[I") (t := [99, 50, 100, 100, 99, 9999, 50]) (ty := .int) hq hts hA 21 22 [23, 24, 25, 26, 27, 28, 29] (kv_t3 (List.mem_of_getElem? (i := 138) (by decide +kernel))) (kv_t1 (List.mem_of_getElem? (i := 1) (by decide +kernel))) (by decide +kernel) (by decide +kernel) (by decide +kernel) (by decide)
  obtain ⟨a3, e3, z3, t3⟩ := ks_st (C := "KnockTable") (n := "NAMES") (d := "[C") (t := [108, 109, 110, 118, 114, 101, 99, 0, 99, 107, 98, 0]) (ty := .char) hq hts hA 31 32 [33, 34, 35, 36, 37, 38, 39, 40, 41, 42, 43, 44] (kv_t3 (List.mem_of_getElem? (i := 224) (by decide +kernel))) (kv_t1 (List.mem_of_getElem? (i := 1) (by decide +kernel))) (by decide +kernel) (by decide +kernel) (by decide +kernel) (by decide)
  obtain ⟨a4, e4, z4, t4⟩ := ks_st (C := "KnockTable") (n := "KIND_ABOVE") (d := "[I") (t := [-1, 0, 1, 0, 3]) (ty := .int) hq hts hA 46 47 [48, 49, 50, 51, 52] (kv_t4 (List.mem_of_getElem? (i := 44) (by decide +kernel))) (kv_t1 (List.mem_of_getElem? (i := 1) (by decide +kernel))) (by decide +kernel) (by decide +kernel) (by decide +kernel) (by decide)
  obtain ⟨a5, e5, z5, t5⟩ := ks_st (C := "KnockTable$Voices") (n := "BODIES") (d := "[I") (t := [10, 11, 12, 13, 0, 20, 0, 21, 30, 0, 31, 0, 40, 0, 41, 0, 0, 50, 51, 52]) (ty := .int) hq hts hA 54 55 [56, 57, 58, 59, 60, 61, 62, 63, 64, 65, 66, 67, 68, 69, 70, 71, 72, 73, 74, 75] (kv_t4 (List.mem_of_getElem? (i := 212) (by decide +kernel))) (kv_t1 (List.mem_of_getElem? (i := 11) (by decide +kernel))) (by decide +kernel) (by decide +kernel) (by decide +kernel) (by decide)
  obtain ⟨adK, adV, hS, hR⟩ := vk_Sof (N := 18) (tm := ks_tm) (len := kv_sl) (byt := kv_sb) ks_h7 (fun i hi => hq _ _ (ks_h1 i hi)) (fun i hi => hq _ _ (ks_h2 i hi)) (fun i hi => hq _ _ (ks_h3 i hi)) (fun i hi => hq _ _ (ks_h4 i hi)) (fun i hi j hj => hq _ _ (ks_h5 i hi j hj)) (fun i j hi hj hij => by
    rcases Nat.lt_or_gt_of_ne hij with g | g
    · rcases ks_h6 i hi j hj g with h | h
      · exact Or.inl (hq _ _ h)
      · exact Or.inr (hq _ _ h)
    · rcases ks_h6 j hj i hi g with h | h
      · exact Or.inr (hq _ _ h)
      · exact Or.inl (hq _ _ h)) hA
  have hcs := va_Zof (C := "java/lang/String") (n := "COMPACT_STRINGS") (d := "Z") (v := .int 1) (hts _ (kv_t6 (List.mem_of_getElem? (i := 169) (by decide +kernel)))) (hts _ (kv_t1 (List.mem_of_getElem? (i := 17) (by decide +kernel)))) (va_eqi (hq 76 _ (by decide +kernel : kn_N[76]? = some (Cond.eq (.static "java/lang/String" "COMPACT_STRINGS" "Z") (.int 1))))) hA
  have hsf := va_Zqof (C := "jdk/internal/util/Preconditions") (n := "SIOOBE_FORMATTER") (d := "Ljava/util/function/BiFunction;") (hts _ (kv_t6 (List.mem_of_getElem? (i := 185) (by decide +kernel)))) (hts _ (kv_t1 (List.mem_of_getElem? (i := 19) (by decide +kernel)))) (hq 77 _ (by decide +kernel : kn_N[77]? = some (Cond.isRef (.static "jdk/internal/util/Preconditions" "SIOOBE_FORMATTER" "Ljava/util/function/BiFunction;")))) hA
  obtain ⟨cell, g1, g2, g3⟩ := ks_len (N := 7) (by decide) e0 (va_eqt (hq 6 _ (by decide +kernel : kn_N[6]? = some (Cond.eq (.length (.static "KnockTable" "RATES_AT_FIRST" "[I")) (.int (Int32.ofNat 7))))))
  obtain ⟨ax, cx, cellx, kx, x1, x2, x3, x4, x5, x6, -⟩ := Cond.exactly_spec (hq 405 _ (by decide +kernel : kn_N[405]? = some (Cond.exactly (.static "KnockTable" "RATES_AT_FIRST" "[I") "[I")))
  cases e0.symm.trans x1
  cases g1.symm.trans x3
  obtain ⟨dC, dI, hD⟩ : ∃ (dC : Nat → ClassId) (dI : Nat → Nat → Nat), ∀ (k : Nat) (q : vw_C), vwCl[k]? = some q → u_Kn s q.1 q.2.1 q.2.2 (dC k) (dI k) := by
    have hcl := ks_cl (s := s) (b := b) (fun x hx => hts x (List.mem_filter.mp hx).1)
    exact ⟨fun k => (Classical.choose (hcl k)).1, fun k => (Classical.choose (hcl k)).2, fun k q h => Classical.choose_spec (hcl k) q h⟩
  obtain ⟨rC, hrC⟩ : ∃ rC : Nat → ClassId, ∀ (k : Nat) (q : FieldType), ks_ty[k]? = some q → ArrOfT s (rC k) q ∧ va_RA s (rC k) q := by
    have hrow := ks_row (s := s) (b := b) hts
    exact ⟨fun k => Classical.choose (hrow k), fun k q h => Classical.choose_spec (hrow k) q h⟩
  obtain ⟨ad, d3, d0, dK, dV⟩ : ∃ ad : Nat → Nat, ad 300 = b ∧ (∀ j, j < 6 → ad j = [a0, a1, a2, a3, a4, a5].getD j 0) ∧ (∀ i, i < 18 → ad (100 + i) = adK i) ∧ ∀ i, i < 18 → ad (200 + i) = adV i := by
    refine ⟨fun n => if n < 100 then [a0, a1, a2, a3, a4, a5].getD n 0 else if n < 200 then adK (n - 100) else if n < 300 then adV (n - 200) else b, rfl, fun j hj => if_pos (by omega), fun i hi => ?_, fun i hi => ?_⟩
    · show (if 100 + i < 100 then _ else if 100 + i < 200 then adK (100 + i - 100) else _) = adK i
      rw [if_neg (by omega), if_pos (by omega), show 100 + i - 100 = i by omega]
    · show (if 200 + i < 100 then _ else if 200 + i < 200 then _ else if 200 + i < 300 then adV (200 + i - 200) else _) = adV i
      rw [if_neg (by omega), if_neg (by omega), if_pos (by omega), show 200 + i - 200 = i by omega]
  have hcx : cx = rC 0 := Option.some.inj (x2.symm.trans (hrC 0 .int rfl).2)
  refine ⟨(s.heap.size, ad, dC, dI, rC), rfl, d3, ⟨fun k q h => hD k q h, fun k q h => ?_⟩, ⟨fun j q t hj ht => ?_, ⟨fun i hi => ?_, fun i j hi hj h => ?_⟩, fun i q h => ?_, hcs, hsf, cell, ?_, ?_, ?_, ?_, g2, ?_⟩, Nat.le_refl _, ks_nw hts⟩
  · have hl : k < 8 := (List.getElem?_eq_some_iff.mp h).1
    rcases (show k = 0 ∨ k = 1 ∨ k = 2 ∨ k = 3 ∨ k = 4 ∨ k = 5 ∨ k = 6 ∨ k = 7 by omega) with rfl | rfl | rfl | rfl | rfl | rfl | rfl | rfl
    · obtain rfl : ((rC 0, .int) : ClassId × FieldType) = q := Option.some.inj h
      exact hrC 0 _ rfl
    · obtain rfl : ((rC 1, .long) : ClassId × FieldType) = q := Option.some.inj h
      exact hrC 1 _ rfl
    · obtain rfl : ((rC 2, .object "KnockTable$Car") : ClassId × FieldType) = q := Option.some.inj h
      exact hrC 2 _ rfl
    · obtain rfl : ((rC 3, .object "KnockTable$Crash") : ClassId × FieldType) = q := Option.some.inj h
      exact hrC 3 _ rfl
    · obtain rfl : ((rC 4, .object "KnockTable$Treaty") : ClassId × FieldType) = q := Option.some.inj h
      exact hrC 4 _ rfl
    · obtain rfl : ((rC 5, .object "KnockTable$Entry") : ClassId × FieldType) = q := Option.some.inj h
      exact hrC 5 _ rfl
    · obtain rfl : ((rC 6, .object "KnockTable$Sheet") : ClassId × FieldType) = q := Option.some.inj h
      exact hrC 6 _ rfl
    · obtain rfl : ((rC 7, .object "java/lang/String") : ClassId × FieldType) = q := Option.some.inj h
      exact hrC 7 _ rfl
  · have hl : j < 6 := (List.getElem?_eq_some_iff.mp hj).1
    rcases (show j = 0 ∨ j = 1 ∨ j = 2 ∨ j = 3 ∨ j = 4 ∨ j = 5 by omega) with rfl | rfl | rfl | rfl | rfl | rfl
    · obtain rfl : (("KnockTable", "RATES_AT_FIRST", "[I", .int) : String × String × String × FieldType) = q := Option.some.inj hj
      obtain rfl : ([10, 15, 70, 20, 30, 0, 1] : List Int32) = t := Option.some.inj ht
      have ea : ad 0 = a0 := d0 0 (by decide)
      exact ⟨by show va_Z _ _ _ (.ref (ad 0)) _ _ _; rw [ea]; exact z0, by show va_T _ (ad 0) _ _ _ _ _; rw [ea]; exact t0⟩
    · obtain rfl : (("KnockTable", "ZONE_TOPS", "[I", .int) : String × String × String × FieldType) = q := Option.some.inj hj
      obtain rfl : ([9999, 99, 60] : List Int32) = t := Option.some.inj ht
      have ea : ad 1 = a1 := d0 1 (by decide)
      exact ⟨by show va_Z _ _ _ (.ref (ad 1)) _ _ _; rw [ea]; exact z1, by show va_T _ (ad 1) _ _ _ _ _; rw [ea]; exact t1⟩
    · obtain rfl : (("KnockTable", "RATE_TOPS", "[I", .int) : String × String × String × FieldType) = q := Option.some.inj hj
      obtain rfl : ([99, 50, 100, 100, 99, 9999, 50] : List Int32) = t := Option.some.inj ht
      have ea : ad 2 = a2 := d0 2 (by decide)
      exact ⟨by show va_Z _ _ _ (.ref (ad 2)) _ _ _; rw [ea]; exact z2, by show va_T _ (ad 2) _ _ _ _ _; rw [ea]; exact t2⟩
    · obtain rfl : (("KnockTable", "NAMES", "[C", .char) : String × String × String × FieldType) = q := Option.some.inj hj
      obtain rfl : ([108, 109, 110, 118, 114, 101, 99, 0, 99, 107, 98, 0] : List Int32) = t := Option.some.inj ht
      have ea : ad 3 = a3 := d0 3 (by decide)
      exact ⟨by show va_Z _ _ _ (.ref (ad 3)) _ _ _; rw [ea]; exact z3, by show va_T _ (ad 3) _ _ _ _ _; rw [ea]; exact t3⟩
    · obtain rfl : (("KnockTable", "KIND_ABOVE", "[I", .int) : String × String × String × FieldType) = q := Option.some.inj hj
      obtain rfl : ([-1, 0, 1, 0, 3] : List Int32) = t := Option.some.inj ht
      have ea : ad 4 = a4 := d0 4 (by decide)
      exact ⟨by show va_Z _ _ _ (.ref (ad 4)) _ _ _; rw [ea]; exact z4, by show va_T _ (ad 4) _ _ _ _ _; rw [ea]; exact t4⟩
    · obtain rfl : (("KnockTable$Voices", "BODIES", "[I", .int) : String × String × String × FieldType) = q := Option.some.inj hj
      obtain rfl : ([10, 11, 12, 13, 0, 20, 0, 21, 30, 0, 31, 0, 40, 0, 41, 0, 0, 50, 51, 52] : List Int32) = t := Option.some.inj ht
      have ea : ad 5 = a5 := d0 5 (by decide)
      exact ⟨by show va_Z _ _ _ (.ref (ad 5)) _ _ _; rw [ea]; exact z5, by show va_T _ (ad 5) _ _ _ _ _; rw [ea]; exact t5⟩
  · have h := hS.1 i hi
    rw [← dK i hi, ← dV i hi] at h
    exact h
  · refine hS.2 i j hi hj ?_
    rw [← dK i hi, ← dK j hj]
    exact h
  · have hi : i < 18 := (List.getElem?_eq_some_iff.mp h).1
    refine vk_R.of (A := #[Value.ref b]) (hts _ (ks_sr h)) ?_
    have hr := hR i hi
    rw [← dK i hi] at hr
    have et : ks_tm i = Term.string "KnockTableModel" q.1 := by
      unfold ks_tm
      rw [List.getD_eq_getElem?_getD, List.getElem?_map, h]
      rfl
    rw [et] at hr
    exact hr
  · show s.heap[ad 0]? = some cell
    rw [show ad 0 = a0 from d0 0 (by decide)]
    exact g1
  · show ¬ s.heap.size ≤ ad 0
    rw [show ad 0 = a0 from d0 0 (by decide)]
    exact hA a0 (Array.getElem?_eq_some_iff.mp g1).1
  · exact x6.trans hcx
  · intro k ek
    rw [ek] at x5
    cases x5
  · obtain ⟨cell2, y1, -, -, -, -, y6, -⟩ := t0
    cases g1.symm.trans y1
    apply Array.ext_getElem?
    intro i
    by_cases hi : i < 7
    · rw [arrV_read _ _ hi]
      exact y6 i hi
    · rw [Array.getElem?_eq_none (by omega), Array.getElem?_eq_none (by rw [arrV_size]; omega)]
