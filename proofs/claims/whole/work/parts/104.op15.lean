/-! sheet, put, move -/
theorem ks_sheet : ∀ i, i < 4 → kv_sh (401 + 3 * i) = (6, 4) ∧ kv_sh (401 + 3 * i + 1) = (20, 24) ∧ kv_sh (401 + 3 * i + 2) = (20, 384) ∧ kv_rf (401 + 3 * i) 0 = some (401 + 3 * i + 1) ∧ kv_rf (401 + 3 * i) 3 = some (401 + 3 * i + 2) ∧ kv_rf 399 i = some (401 + 3 * i) := by decide +kernel
theorem kRX.sh {a a' : KA} {u v : KMem} (h : kRX a u) (ho : kOk a) (hj : ∀ j, j < 6 → a' j = a j) (V : ∀ b k, b < 401 → v.2.1 b k = u.2.1 b k) (hs : ∀ i, i < 4 → kXSh a' v i) : kRX a' v := by
  obtain ⟨h1, h2, h3, h4, h5, h6, h7⟩ := h
  have h30 := (ho.2.2.1.n (by omega)).2
  refine ⟨?_, ⟨fun q => ?_, by rw [V _ _ (by omega)]; exact h2.2⟩, ?_, fun k hk => ?_, ?_, fun k hk => ?_, hs⟩
  · rw [hj 0 (by omega)]; exact h1.of (fun b k q1 q2 => V b k (by omega)) ho.1
  · rw [hj 2 (by omega)] at q
    rw [hj 1 (by omega)]; exact (h2.1 q).of (fun b k q1 q2 => V b k (by omega)) (ho.2.1 q)
  · rw [V _ _ (by omega), hj 2 (by omega)]; exact h3
  · rw [V _ _ (by omega), hj 3 (by omega)]; exact h4 k hk
  · rw [V _ _ (by omega), hj 5 (by omega)]; exact h5
  · rw [hj 5 (by omega)] at hk
    rw [V _ _ (by omega), hj 4 (by omega)]; exact h6 k hk
theorem kRM.sh {a a' : KA} {u v : KMem} (h : kRM a u) (hj : ∀ j, j < 6 → a' j = a j) (V : ∀ b, 413 ≤ b → b ≠ 429 → b ≠ 430 → b ≠ 431 → b ≠ 432 → v.2.1 b = u.2.1 b) (h6 : v.2.1 429 = a' 6) (h7 : v.2.1 430 = a' 7) (h8 : v.2.1 431 = a' 8) : kRM a' v := by
  obtain ⟨q1, q2, q3, q4, q5, q6, q7, q8, q9, qA⟩ := h
  have V1 := fun b (h1 : 413 ≤ b) (h2 : b < 429) => V b h1 (by omega) (by omega) (by omega) (by omega)
  exact ⟨by rw [V1 _ (by omega) (by omega), hj 0 (by omega)]; exact q1, by rw [V1 _ (by omega) (by omega), hj 1 (by omega)]; exact q2, by rw [V1 _ (by omega) (by omega), hj 2 (by omega)]; exact q3, by rw [V1 _ (by omega) (by omega), hj 3 (by omega)]; exact q4, by rw [V1 _ (by omega) (by omega), hj 4 (by omega)]; exact q5, by rw [V1 _ (by omega) (by omega), hj 5 (by omega)]; exact q6, h6, h7, h8, ⟨by rw [V1 _ (by omega) (by omega)]; exact qA.1, by rw [V1 _ (by omega) (by omega)]; exact qA.2⟩⟩
/-- of a row of numbers, n from s on become 0 -/
def kZr (f : Nat → Int32) (s n : Nat) : Nat → Int32 := fun j => if s ≤ j ∧ j < s + n then 0 else f j
theorem kZr_0 (f : Nat → Int32) (s : Nat) : kZr f s 0 = f := funext fun j => if_neg (by omega)
theorem kZr_n {f : Nat → Int32} {s n j : Nat} (h : ¬ (s ≤ j ∧ j < s + n)) : kZr f s n j = f j := if_neg h
theorem kZr_s {f : Nat → Int32} {s n j : Nat} (h : s ≤ j ∧ j < s + n) : kZr f s n j = 0 := if_pos h
theorem kZr_step (f : Nat → Int32) (s n : Nat) : kSet (kZr f s n) (s + n) 0 = kZr f s (n + 1) := by
  funext j
  by_cases q : j = s + n
  · rw [q, kSet_s, kZr_s (by omega)]
  · rw [kSet_n q]
    by_cases q2 : s ≤ j ∧ j < s + n
    · rw [kZr_s q2, kZr_s (by omega)]
    · rw [kZr_n q2, kZr_n (by omega)]
def kShG (a : KA) (s : Nat) (b n : Int32) : KA := kUp1 (kUp1 (kUp1 a 6 (kSet (a 6) s b)) 7 (kSet (a 7) s n)) 8 (kZr (a 8) (24 * s) 24)
theorem kShG_j {a : KA} {s : Nat} {b n : Int32} : ∀ j, j < 6 → kShG a s b n j = a j := fun j hj => by unfold kShG; rw [kUp1_n (by omega), kUp1_n (by omega), kUp1_n (by omega)]
theorem kShG_6 (a : KA) (s : Nat) (b n : Int32) : kShG a s b n 6 = kSet (a 6) s b := by unfold kShG; rw [kUp1_n (by omega), kUp1_n (by omega), kUp1_s]
theorem kShG_7 (a : KA) (s : Nat) (b n : Int32) : kShG a s b n 7 = kSet (a 7) s n := by unfold kShG; rw [kUp1_n (by omega), kUp1_s]
theorem kShG_8 (a : KA) (s : Nat) (b n : Int32) : kShG a s b n 8 = kZr (a 8) (24 * s) 24 := by unfold kShG; rw [kUp1_s]
abbrev kBt (p : Int32) : Prop := p = 0 ∨ p = 8 ∨ p = 16 ∨ p = 32
def ksheet (a : KA) (p0 p1 p2 : Int32) : Int32 × KA := if kOut p0 0 3 ∨ ¬ kBt p1 then (-1000001, kF a 1) else if ¬ p1 = 0 ∧ p2 < 0 then (-1000003, kF a 3) else if ¬ p1 = 0 ∧ ¬ p2 ≤ 24 then (-1000001, kF a 1) else (1, kShG a p0.toNatClampNeg p1 (if p1 = 0 then 0 else p2))
def kCut (b v : Int32) : Int32 := if b = 8 then v.toInt8.toInt32 else if b = 16 then v.toInt16.toInt32 else v
def kput (a : KA) (p0 p1 p2 : Int32) : Int32 × KA := if kOut p0 0 3 then (-1000001, kF a 1) else if a 6 p0.toNatClampNeg = 0 then (-1000002, kF a 2) else if kOut p1 0 (a 7 p0.toNatClampNeg - 1) then (-1000001, kF a 1) else (1, kUp1 a 8 (kSet (a 8) (24 * p0.toNatClampNeg + p1.toNatClampNeg) (kCut (a 6 p0.toNatClampNeg) p2)))
abbrev kLack (i n l : Int32) : Prop := i < 0 ∨ n < 0 ∨ ¬ n ≤ l ∨ ¬ i ≤ l - n
/-- n numbers from i become those from j on, told by f -/
def kMv (f h : Nat → Int32) (j i n : Nat) : Nat → Int32 := fun k => if j ≤ k ∧ k < j + n then f (i + (k - j)) else h k
theorem kMv_0 (f h : Nat → Int32) (j i : Nat) : kMv f h j i 0 = h := funext fun k => if_neg (by omega)
theorem kMv_step (f h : Nat → Int32) (j i n : Nat) : kSet (kMv f h j i n) (j + n) (f (i + n)) = kMv f h j i (n + 1) := by
  funext k
  unfold kMv
  by_cases q : k = j + n
  · rw [q, kSet_s, if_pos (by omega), show j + n - j = n by omega]
  · rw [kSet_n q]
    by_cases q2 : j ≤ k ∧ k < j + n
    · rw [if_pos q2, if_pos (by omega)]
    · rw [if_neg q2, if_neg (by omega)]
def kmove (a : KA) (p0 p1 p2 p3 p4 : Int32) : Int32 × KA := if kOut p0 0 3 ∨ kOut p2 0 3 then (-1000001, kF a 1) else if a 6 p0.toNatClampNeg = 0 ∨ a 6 p2.toNatClampNeg = 0 then (-1000002, kF a 2) else if ¬ a 6 p0.toNatClampNeg = a 6 p2.toNatClampNeg then (-1000005, kF a 5) else if kLack p1 p4 (a 7 p0.toNatClampNeg) ∨ kLack p3 p4 (a 7 p2.toNatClampNeg) then (-1000001, kF a 1) else (p4, kUp1 a 8 (kMv (a 8) (a 8) (24 * p2.toNatClampNeg + p3.toNatClampNeg) (24 * p0.toNatClampNeg + p1.toNatClampNeg) p4.toNatClampNeg))
theorem kOk.sh {a a' : KA} (ho : kOk a) (hj : ∀ j, j < 6 → a' j = a j) (hs : ∀ i, i < 4 → kUp (a' 7 i) 24 ∧ (a' 6 i = 0 ∨ a' 6 i = 8 ∨ a' 6 i = 16 ∨ a' 6 i = 32)) : kOk a' :=
  ⟨by rw [hj 0 (by omega)]; exact ho.1, fun q => by rw [hj 2 (by omega)] at q; rw [hj 1 (by omega)]; exact ho.2.1 q, by rw [hj 5 (by omega)]; exact ho.2.2.1, hs⟩
set_option maxRecDepth 20000 in
set_option maxHeartbeats 4000000 in
theorem qX6_become {w : KW} {l : Launch} {u : KMem} (hu : kWd u) (s : Nat) (hs : s < 4) (p0 p1 : Int32) : KC w l mX6_become 1 0 0 [.ref (401 + 3 * s), .int p0, .int p1] u (kq none (kFl (kv_si (kv_si u (401 + 3 * s) 1 p0) (401 + 3 * s) 2 p1) (401 + 3 * s + 1) 24 0)) := by
  refine KC.of (ls := [_, _, _]) rfl rfl (Nat.le_of_ble_eq_true rfl) ?_
  have ks := ks_sheet s (by omega)
  have ks1 := ks.1
  have ks2 := ks.2.1
  have ks4 := ks.2.2.2.1
  have ks6 := ks.2.2.2.2.2
  refine kv_aload_n dX6_become_0 rfl ?_
  refine kv_iload_n dX6_become_1 rfl ?_
  refine kw_pI dX6_become_2 fX6_18 hu (by first | rfl | assumption) rfl rfl ?_
  refine kv_aload_n dX6_become_5 rfl ?_
  refine kv_iload_n dX6_become_6 rfl ?_
  refine kw_pI dX6_become_7 fX6_22 hu (by first | rfl | assumption) rfl rfl ?_
  refine kv_aload_n dX6_become_10 rfl ?_
  refine kw_gR dX6_become_11 fX6_9 hu (by first | rfl | assumption) rfl rfl (by first | rfl | assumption) ?_
  refine kv_iconst dX6_become_14 0 ki_0 ?_
  refine kw_Sv [_, _] mJ7_fill_53178 dX6_become_15 lX6_25 wJ7_fill_53178 rfl rfl rfl (qJ7_fill_53178 (by exact hu) ks2 (by omega) rfl _) (by decide) ?_
  exact kv_vret dX6_become_18 rfl ⟨rfl, rfl⟩

theorem kRX.become {a : KA} {u : KMem} (hx : kRX a u) (ho : kOk a) {s : Nat} (hs : s < 4) (p0 p1 : Int32) : kRX (kShG a s p0 p1) (kFl (kv_si (kv_si u (401 + 3 * s) 1 p0) (401 + 3 * s) 2 p1) (401 + 3 * s + 1) 24 0) := by
  refine hx.sh ho kShG_j (fun b k hb => by rw [kFl_n (by omega), kv_si_n (by omega), kv_si_n (by omega)]) (fun i hi => ?_)
  have h7 := hx.2.2.2.2.2.2 i hi
  by_cases q : i = s
  · subst q
    refine ⟨?_, ?_, fun k hk => ?_⟩
    · rw [kShG_6, kSet_s, kFl_n (by omega), kv_si_n (by omega), kv_si_s]
    · rw [kShG_7, kSet_s, kFl_n (by omega), kv_si_s]
    · rw [kShG_8, kZr_s (by omega), kFl_s (by omega)]
  · refine ⟨?_, ?_, fun k hk => ?_⟩
    · rw [kShG_6, kSet_n q, kFl_n (by omega), kv_si_n (by omega), kv_si_n (by omega)]; exact h7.1
    · rw [kShG_7, kSet_n q, kFl_n (by omega), kv_si_n (by omega), kv_si_n (by omega)]; exact h7.2.1
    · rw [kShG_8, kZr_n (by omega), kFl_n (by omega), kv_si_n (by omega), kv_si_n (by omega)]; exact h7.2.2 k hk
set_option maxRecDepth 20000 in
set_option maxHeartbeats 4000000 in
theorem qX11_sheet {w : KW} {l : Launch} {u : KMem} (hu : kWd u) {a : KA} (hx : kRX a u) (ho : kOk a) (p0 p1 p2 : Int32) : KC w l mX11_sheet 2 0 0 [.ref 0, .int p0, .int p1, .int p2] u (kOX u (ksheet a p0 p1 p2).1 (ksheet a p0 p1 p2).2) := by
  have hr := hx.1
  have hg := ho.1
  have hx20 := (hg.cnt (k := 2) rfl).2
  have hc30 := (hg.cnt (k := 0) rfl).2
  have ht10 := (hg.cnt (k := 3) rfl).2
  have he40 := (hg.cnt (k := 4) rfl).2
  have hs16 := hg.cnt (k := 1) rfl
  refine KC.of (ls := [_, _, _, _]) rfl rfl (Nat.le_of_ble_eq_true rfl) ?_
  refine kv_iload_n dX11_sheet_0 rfl ?_
  refine kv_iconst dX11_sheet_1 0 ki_0 ?_
  refine kv_iconst dX11_sheet_2 3 ki_3 ?_
  refine kw_Si [_, _, _] mX11_outside dX11_sheet_3 lX11_69 wX11_outside rfl rfl rfl (qX11_outside (by exact hu) _ _ _) (by decide) ?_
  refine kw_bne dX11_sheet_6 31 (by decide) (fun h1 => ?_) (fun h1 => ?_)
  · have hS : ksheet a p0 p1 p2 = (-1000001, kF a 1) := if_pos (Or.inl h1)
    refine kv_aload_n dX11_sheet_31 rfl ?_
    refine kv_ldc dX11_sheet_32 kX11_74 ?_
    refine kw_Vi [_] mX11_refuse dX11_sheet_34 lX11_75 wX11_refuse kC11 hu rfl (by first | rfl | assumption) rfl rfl rfl (qX11_refuse (by exact hu) 1 (by decide) (by decide) _ (by decide)) (by decide) ?_
    exact kv_iret dX11_sheet_37 rfl (by rw [hS]; exact kOX.no hx ho hu (by decide) rfl)
  · have n1 : ¬ kOut p0 0 3 := h1
    refine kv_iload_n dX11_sheet_9 rfl ?_
    refine kv_if_eq dX11_sheet_10 38 (by decide) (fun h2 => ?_) (fun h2 => ?_)
    · have n2 : kBt p1 := Or.inl h2
      have hS : ksheet a p0 p1 p2 = _ := if_neg (fun q => q.elim n1 (fun q => q n2))
      obtain ⟨s, hs3, rfl⟩ := kOut.bd (n := 3) (by omega) n1
      have hs : s < 4 := by omega
      rw [nI_clamp (by omega)] at hS
      have ks := ks_sheet s (by omega)
      have ks1 := ks.1
      have ks2 := ks.2.1
      have ks4 := ks.2.2.2.1
      have ks6 := ks.2.2.2.2.2
      refine kv_iload_n dX11_sheet_38 rfl ?_
      refine kv_if_ne dX11_sheet_39 55 (by decide) (fun h3 => ?_) (fun h3 => ?_)
      · have z := h3
        rw [if_neg h3] at hS
        refine kv_iload_n dX11_sheet_55 rfl ?_
        refine kv_if_ge dX11_sheet_56 67 (by decide) (fun h4 => ?_) (fun h4 => ?_)
        · rw [if_neg (fun q => Int32.not_lt.mpr h4 q.2)] at hS
          refine kv_iload_n dX11_sheet_67 rfl ?_
          refine kv_bipush dX11_sheet_68 24 kb_24 ?_
          refine kv_icmp_le dX11_sheet_70 80 (by decide) (fun h5 => ?_) (fun h5 => ?_)
          · rw [if_neg (fun q => q.2 h5)] at hS
            refine kv_aload_n dX11_sheet_80 rfl ?_
            refine kw_gR dX11_sheet_81 fX11_60 hu (by first | rfl | assumption) rfl rfl (by first | rfl | assumption) ?_
            refine kv_iload_n dX11_sheet_84 rfl ?_
            refine kw_al (t := 4) (n := 4) dX11_sheet_85 hu rfl rfl (s) rfl (by omega) rfl (by first | rfl | assumption) ?_
            refine kv_iload_n dX11_sheet_86 rfl ?_
            refine kv_iload_n dX11_sheet_87 rfl ?_
            refine kw_Vv [_, _] mX6_become dX11_sheet_88 lX11_388 wX6_become kC6 hu rfl (by first | rfl | assumption) rfl rfl rfl (qX6_become (by exact hu) s hs _ _) (by decide) ?_
            refine kv_iconst dX11_sheet_91 1 ki_1 ?_
            exact kv_iret dX11_sheet_92 rfl (by rw [hS]; exact ⟨rfl, hu, fun b hb => by rw [kFl_row (by omega), kv_si_row (by omega), kv_si_row (by omega)], hx.become ho hs _ _⟩)
          · rw [if_pos ⟨z, h5⟩] at hS
            refine kv_aload_n dX11_sheet_73 rfl ?_
            refine kv_ldc dX11_sheet_74 kX11_74 ?_
            refine kw_Vi [_] mX11_refuse dX11_sheet_76 lX11_75 wX11_refuse kC11 hu rfl (by first | rfl | assumption) rfl rfl rfl (qX11_refuse (by exact hu) 1 (by decide) (by decide) _ (by decide)) (by decide) ?_
            exact kv_iret dX11_sheet_79 rfl (by rw [hS]; exact kOX.no hx ho hu (by decide) rfl)
        · rw [if_pos ⟨z, Int32.not_le.mp h4⟩] at hS
          refine kv_aload_n dX11_sheet_59 rfl ?_
          refine kv_ldcw dX11_sheet_60 kX11_389 ?_
          refine kw_Vi [_] mX11_refuse dX11_sheet_63 lX11_75 wX11_refuse kC11 hu rfl (by first | rfl | assumption) rfl rfl rfl (qX11_refuse (by exact hu) 3 (by decide) (by decide) _ (by decide)) (by decide) ?_
          exact kv_iret dX11_sheet_66 rfl (by rw [hS]; exact kOX.no hx ho hu (by decide) rfl)
      · have z := h3
        rw [if_neg (fun q => q.1 h3), if_neg (fun q => q.1 h3), if_pos h3, h3] at hS
        refine kv_aload_n dX11_sheet_42 rfl ?_
        refine kw_gR dX11_sheet_43 fX11_60 hu (by first | rfl | assumption) rfl rfl (by first | rfl | assumption) ?_
        refine kv_iload_n dX11_sheet_46 rfl ?_
        refine kw_al (t := 4) (n := 4) dX11_sheet_47 hu rfl rfl (s) rfl (by omega) rfl (by first | rfl | assumption) ?_
        refine kv_iconst dX11_sheet_48 0 ki_0 ?_
        refine kv_iconst dX11_sheet_49 0 ki_0 ?_
        refine kw_Vv [_, _] mX6_become dX11_sheet_50 lX11_388 wX6_become kC6 hu rfl (by first | rfl | assumption) rfl rfl rfl (qX6_become (by exact hu) s hs _ _) (by decide) ?_
        refine kv_iconst dX11_sheet_53 1 ki_1 ?_
        exact kv_iret dX11_sheet_54 rfl (by rw [z, hS]; exact ⟨rfl, hu, fun b hb => by rw [kFl_row (by omega), kv_si_row (by omega), kv_si_row (by omega)], hx.become ho hs _ _⟩)
    · have z0 : ¬ p1 = 0 := h2
      refine kv_iload_n dX11_sheet_13 rfl ?_
      refine kv_bipush dX11_sheet_14 8 kb_8 ?_
      refine kv_icmp_eq dX11_sheet_16 38 (by decide) (fun h6 => ?_) (fun h6 => ?_)
      · have n2 : kBt p1 := Or.inr (Or.inl h6)
        have hS : ksheet a p0 p1 p2 = _ := if_neg (fun q => q.elim n1 (fun q => q n2))
        obtain ⟨s, hs3, rfl⟩ := kOut.bd (n := 3) (by omega) n1
        have hs : s < 4 := by omega
        rw [nI_clamp (by omega)] at hS
        have ks := ks_sheet s (by omega)
        have ks1 := ks.1
        have ks2 := ks.2.1
        have ks4 := ks.2.2.2.1
        have ks6 := ks.2.2.2.2.2
        refine kv_iload_n dX11_sheet_38 rfl ?_
        refine kv_if_ne dX11_sheet_39 55 (by decide) (fun h7 => ?_) (fun h7 => ?_)
        · have z := h7
          rw [if_neg h7] at hS
          refine kv_iload_n dX11_sheet_55 rfl ?_
          refine kv_if_ge dX11_sheet_56 67 (by decide) (fun h8 => ?_) (fun h8 => ?_)
          · rw [if_neg (fun q => Int32.not_lt.mpr h8 q.2)] at hS
            refine kv_iload_n dX11_sheet_67 rfl ?_
            refine kv_bipush dX11_sheet_68 24 kb_24 ?_
            refine kv_icmp_le dX11_sheet_70 80 (by decide) (fun h9 => ?_) (fun h9 => ?_)
            · rw [if_neg (fun q => q.2 h9)] at hS
              refine kv_aload_n dX11_sheet_80 rfl ?_
              refine kw_gR dX11_sheet_81 fX11_60 hu (by first | rfl | assumption) rfl rfl (by first | rfl | assumption) ?_
              refine kv_iload_n dX11_sheet_84 rfl ?_
              refine kw_al (t := 4) (n := 4) dX11_sheet_85 hu rfl rfl (s) rfl (by omega) rfl (by first | rfl | assumption) ?_
              refine kv_iload_n dX11_sheet_86 rfl ?_
              refine kv_iload_n dX11_sheet_87 rfl ?_
              refine kw_Vv [_, _] mX6_become dX11_sheet_88 lX11_388 wX6_become kC6 hu rfl (by first | rfl | assumption) rfl rfl rfl (qX6_become (by exact hu) s hs _ _) (by decide) ?_
              refine kv_iconst dX11_sheet_91 1 ki_1 ?_
              exact kv_iret dX11_sheet_92 rfl (by rw [hS]; exact ⟨rfl, hu, fun b hb => by rw [kFl_row (by omega), kv_si_row (by omega), kv_si_row (by omega)], hx.become ho hs _ _⟩)
            · rw [if_pos ⟨z, h9⟩] at hS
              refine kv_aload_n dX11_sheet_73 rfl ?_
              refine kv_ldc dX11_sheet_74 kX11_74 ?_
              refine kw_Vi [_] mX11_refuse dX11_sheet_76 lX11_75 wX11_refuse kC11 hu rfl (by first | rfl | assumption) rfl rfl rfl (qX11_refuse (by exact hu) 1 (by decide) (by decide) _ (by decide)) (by decide) ?_
              exact kv_iret dX11_sheet_79 rfl (by rw [hS]; exact kOX.no hx ho hu (by decide) rfl)
          · rw [if_pos ⟨z, Int32.not_le.mp h8⟩] at hS
            refine kv_aload_n dX11_sheet_59 rfl ?_
            refine kv_ldcw dX11_sheet_60 kX11_389 ?_
            refine kw_Vi [_] mX11_refuse dX11_sheet_63 lX11_75 wX11_refuse kC11 hu rfl (by first | rfl | assumption) rfl rfl rfl (qX11_refuse (by exact hu) 3 (by decide) (by decide) _ (by decide)) (by decide) ?_
            exact kv_iret dX11_sheet_66 rfl (by rw [hS]; exact kOX.no hx ho hu (by decide) rfl)
        · have z := h7
          rw [if_neg (fun q => q.1 h7), if_neg (fun q => q.1 h7), if_pos h7, h7] at hS
          refine kv_aload_n dX11_sheet_42 rfl ?_
          refine kw_gR dX11_sheet_43 fX11_60 hu (by first | rfl | assumption) rfl rfl (by first | rfl | assumption) ?_
          refine kv_iload_n dX11_sheet_46 rfl ?_
          refine kw_al (t := 4) (n := 4) dX11_sheet_47 hu rfl rfl (s) rfl (by omega) rfl (by first | rfl | assumption) ?_
          refine kv_iconst dX11_sheet_48 0 ki_0 ?_
          refine kv_iconst dX11_sheet_49 0 ki_0 ?_
          refine kw_Vv [_, _] mX6_become dX11_sheet_50 lX11_388 wX6_become kC6 hu rfl (by first | rfl | assumption) rfl rfl rfl (qX6_become (by exact hu) s hs _ _) (by decide) ?_
          refine kv_iconst dX11_sheet_53 1 ki_1 ?_
          exact kv_iret dX11_sheet_54 rfl (by rw [z, hS]; exact ⟨rfl, hu, fun b hb => by rw [kFl_row (by omega), kv_si_row (by omega), kv_si_row (by omega)], hx.become ho hs _ _⟩)
      · have z1 : ¬ p1 = 8 := h6
        refine kv_iload_n dX11_sheet_19 rfl ?_
        refine kv_bipush dX11_sheet_20 16 kb_16 ?_
        refine kv_icmp_eq dX11_sheet_22 38 (by decide) (fun h10 => ?_) (fun h10 => ?_)
        · have n2 : kBt p1 := Or.inr (Or.inr (Or.inl h10))
          have hS : ksheet a p0 p1 p2 = _ := if_neg (fun q => q.elim n1 (fun q => q n2))
          obtain ⟨s, hs3, rfl⟩ := kOut.bd (n := 3) (by omega) n1
          have hs : s < 4 := by omega
          rw [nI_clamp (by omega)] at hS
          have ks := ks_sheet s (by omega)
          have ks1 := ks.1
          have ks2 := ks.2.1
          have ks4 := ks.2.2.2.1
          have ks6 := ks.2.2.2.2.2
          refine kv_iload_n dX11_sheet_38 rfl ?_
          refine kv_if_ne dX11_sheet_39 55 (by decide) (fun h11 => ?_) (fun h11 => ?_)
          · have z := h11
            rw [if_neg h11] at hS
            refine kv_iload_n dX11_sheet_55 rfl ?_
            refine kv_if_ge dX11_sheet_56 67 (by decide) (fun h12 => ?_) (fun h12 => ?_)
            · rw [if_neg (fun q => Int32.not_lt.mpr h12 q.2)] at hS
              refine kv_iload_n dX11_sheet_67 rfl ?_
              refine kv_bipush dX11_sheet_68 24 kb_24 ?_
              refine kv_icmp_le dX11_sheet_70 80 (by decide) (fun h13 => ?_) (fun h13 => ?_)
              · rw [if_neg (fun q => q.2 h13)] at hS
                refine kv_aload_n dX11_sheet_80 rfl ?_
                refine kw_gR dX11_sheet_81 fX11_60 hu (by first | rfl | assumption) rfl rfl (by first | rfl | assumption) ?_
                refine kv_iload_n dX11_sheet_84 rfl ?_
                refine kw_al (t := 4) (n := 4) dX11_sheet_85 hu rfl rfl (s) rfl (by omega) rfl (by first | rfl | assumption) ?_
                refine kv_iload_n dX11_sheet_86 rfl ?_
                refine kv_iload_n dX11_sheet_87 rfl ?_
                refine kw_Vv [_, _] mX6_become dX11_sheet_88 lX11_388 wX6_become kC6 hu rfl (by first | rfl | assumption) rfl rfl rfl (qX6_become (by exact hu) s hs _ _) (by decide) ?_
                refine kv_iconst dX11_sheet_91 1 ki_1 ?_
                exact kv_iret dX11_sheet_92 rfl (by rw [hS]; exact ⟨rfl, hu, fun b hb => by rw [kFl_row (by omega), kv_si_row (by omega), kv_si_row (by omega)], hx.become ho hs _ _⟩)
              · rw [if_pos ⟨z, h13⟩] at hS
                refine kv_aload_n dX11_sheet_73 rfl ?_
                refine kv_ldc dX11_sheet_74 kX11_74 ?_
                refine kw_Vi [_] mX11_refuse dX11_sheet_76 lX11_75 wX11_refuse kC11 hu rfl (by first | rfl | assumption) rfl rfl rfl (qX11_refuse (by exact hu) 1 (by decide) (by decide) _ (by decide)) (by decide) ?_
                exact kv_iret dX11_sheet_79 rfl (by rw [hS]; exact kOX.no hx ho hu (by decide) rfl)
            · rw [if_pos ⟨z, Int32.not_le.mp h12⟩] at hS
              refine kv_aload_n dX11_sheet_59 rfl ?_
              refine kv_ldcw dX11_sheet_60 kX11_389 ?_
              refine kw_Vi [_] mX11_refuse dX11_sheet_63 lX11_75 wX11_refuse kC11 hu rfl (by first | rfl | assumption) rfl rfl rfl (qX11_refuse (by exact hu) 3 (by decide) (by decide) _ (by decide)) (by decide) ?_
              exact kv_iret dX11_sheet_66 rfl (by rw [hS]; exact kOX.no hx ho hu (by decide) rfl)
          · have z := h11
            rw [if_neg (fun q => q.1 h11), if_neg (fun q => q.1 h11), if_pos h11, h11] at hS
            refine kv_aload_n dX11_sheet_42 rfl ?_
            refine kw_gR dX11_sheet_43 fX11_60 hu (by first | rfl | assumption) rfl rfl (by first | rfl | assumption) ?_
            refine kv_iload_n dX11_sheet_46 rfl ?_
            refine kw_al (t := 4) (n := 4) dX11_sheet_47 hu rfl rfl (s) rfl (by omega) rfl (by first | rfl | assumption) ?_
            refine kv_iconst dX11_sheet_48 0 ki_0 ?_
            refine kv_iconst dX11_sheet_49 0 ki_0 ?_
            refine kw_Vv [_, _] mX6_become dX11_sheet_50 lX11_388 wX6_become kC6 hu rfl (by first | rfl | assumption) rfl rfl rfl (qX6_become (by exact hu) s hs _ _) (by decide) ?_
            refine kv_iconst dX11_sheet_53 1 ki_1 ?_
            exact kv_iret dX11_sheet_54 rfl (by rw [z, hS]; exact ⟨rfl, hu, fun b hb => by rw [kFl_row (by omega), kv_si_row (by omega), kv_si_row (by omega)], hx.become ho hs _ _⟩)
        · have z2 : ¬ p1 = 16 := h10
          refine kv_iload_n dX11_sheet_25 rfl ?_
          refine kv_bipush dX11_sheet_26 32 kb_32 ?_
          refine kv_icmp_eq dX11_sheet_28 38 (by decide) (fun h14 => ?_) (fun h14 => ?_)
          · have n2 : kBt p1 := Or.inr (Or.inr (Or.inr h14))
            have hS : ksheet a p0 p1 p2 = _ := if_neg (fun q => q.elim n1 (fun q => q n2))
            obtain ⟨s, hs3, rfl⟩ := kOut.bd (n := 3) (by omega) n1
            have hs : s < 4 := by omega
            rw [nI_clamp (by omega)] at hS
            have ks := ks_sheet s (by omega)
            have ks1 := ks.1
            have ks2 := ks.2.1
            have ks4 := ks.2.2.2.1
            have ks6 := ks.2.2.2.2.2
            refine kv_iload_n dX11_sheet_38 rfl ?_
            refine kv_if_ne dX11_sheet_39 55 (by decide) (fun h15 => ?_) (fun h15 => ?_)
            · have z := h15
              rw [if_neg h15] at hS
              refine kv_iload_n dX11_sheet_55 rfl ?_
              refine kv_if_ge dX11_sheet_56 67 (by decide) (fun h16 => ?_) (fun h16 => ?_)
              · rw [if_neg (fun q => Int32.not_lt.mpr h16 q.2)] at hS
                refine kv_iload_n dX11_sheet_67 rfl ?_
                refine kv_bipush dX11_sheet_68 24 kb_24 ?_
                refine kv_icmp_le dX11_sheet_70 80 (by decide) (fun h17 => ?_) (fun h17 => ?_)
                · rw [if_neg (fun q => q.2 h17)] at hS
                  refine kv_aload_n dX11_sheet_80 rfl ?_
                  refine kw_gR dX11_sheet_81 fX11_60 hu (by first | rfl | assumption) rfl rfl (by first | rfl | assumption) ?_
                  refine kv_iload_n dX11_sheet_84 rfl ?_
                  refine kw_al (t := 4) (n := 4) dX11_sheet_85 hu rfl rfl (s) rfl (by omega) rfl (by first | rfl | assumption) ?_
                  refine kv_iload_n dX11_sheet_86 rfl ?_
                  refine kv_iload_n dX11_sheet_87 rfl ?_
                  refine kw_Vv [_, _] mX6_become dX11_sheet_88 lX11_388 wX6_become kC6 hu rfl (by first | rfl | assumption) rfl rfl rfl (qX6_become (by exact hu) s hs _ _) (by decide) ?_
                  refine kv_iconst dX11_sheet_91 1 ki_1 ?_
                  exact kv_iret dX11_sheet_92 rfl (by rw [hS]; exact ⟨rfl, hu, fun b hb => by rw [kFl_row (by omega), kv_si_row (by omega), kv_si_row (by omega)], hx.become ho hs _ _⟩)
                · rw [if_pos ⟨z, h17⟩] at hS
                  refine kv_aload_n dX11_sheet_73 rfl ?_
                  refine kv_ldc dX11_sheet_74 kX11_74 ?_
                  refine kw_Vi [_] mX11_refuse dX11_sheet_76 lX11_75 wX11_refuse kC11 hu rfl (by first | rfl | assumption) rfl rfl rfl (qX11_refuse (by exact hu) 1 (by decide) (by decide) _ (by decide)) (by decide) ?_
                  exact kv_iret dX11_sheet_79 rfl (by rw [hS]; exact kOX.no hx ho hu (by decide) rfl)
              · rw [if_pos ⟨z, Int32.not_le.mp h16⟩] at hS
                refine kv_aload_n dX11_sheet_59 rfl ?_
                refine kv_ldcw dX11_sheet_60 kX11_389 ?_
                refine kw_Vi [_] mX11_refuse dX11_sheet_63 lX11_75 wX11_refuse kC11 hu rfl (by first | rfl | assumption) rfl rfl rfl (qX11_refuse (by exact hu) 3 (by decide) (by decide) _ (by decide)) (by decide) ?_
                exact kv_iret dX11_sheet_66 rfl (by rw [hS]; exact kOX.no hx ho hu (by decide) rfl)
            · have z := h15
              rw [if_neg (fun q => q.1 h15), if_neg (fun q => q.1 h15), if_pos h15, h15] at hS
              refine kv_aload_n dX11_sheet_42 rfl ?_
              refine kw_gR dX11_sheet_43 fX11_60 hu (by first | rfl | assumption) rfl rfl (by first | rfl | assumption) ?_
              refine kv_iload_n dX11_sheet_46 rfl ?_
              refine kw_al (t := 4) (n := 4) dX11_sheet_47 hu rfl rfl (s) rfl (by omega) rfl (by first | rfl | assumption) ?_
              refine kv_iconst dX11_sheet_48 0 ki_0 ?_
              refine kv_iconst dX11_sheet_49 0 ki_0 ?_
              refine kw_Vv [_, _] mX6_become dX11_sheet_50 lX11_388 wX6_become kC6 hu rfl (by first | rfl | assumption) rfl rfl rfl (qX6_become (by exact hu) s hs _ _) (by decide) ?_
              refine kv_iconst dX11_sheet_53 1 ki_1 ?_
              exact kv_iret dX11_sheet_54 rfl (by rw [z, hS]; exact ⟨rfl, hu, fun b hb => by rw [kFl_row (by omega), kv_si_row (by omega), kv_si_row (by omega)], hx.become ho hs _ _⟩)
          · have hS : ksheet a p0 p1 p2 = (-1000001, kF a 1) := if_pos (Or.inr (by rintro (q | q | q | q) <;> contradiction))
            refine kv_aload_n dX11_sheet_31 rfl ?_
            refine kv_ldc dX11_sheet_32 kX11_74 ?_
            refine kw_Vi [_] mX11_refuse dX11_sheet_34 lX11_75 wX11_refuse kC11 hu rfl (by first | rfl | assumption) rfl rfl rfl (qX11_refuse (by exact hu) 1 (by decide) (by decide) _ (by decide)) (by decide) ?_
            exact kv_iret dX11_sheet_37 rfl (by rw [hS]; exact kOX.no hx ho hu (by decide) rfl)

set_option maxRecDepth 20000 in
set_option maxHeartbeats 4000000 in
theorem qX12_sheet {w : KW} {l : Launch} {u : KMem} (hu : kWd u) {a : KA} (hm : kRM a u) (ho : kOk a) (p0 p1 p2 : Int32) : KC w l mX12_sheet 2 0 0 [.ref 413, .int p0, .int p1, .int p2] u (kOM u (ksheet a p0 p1 p2).1 (ksheet a p0 p1 p2).2) := by
  have eg := hm.1
  have hg := ho.1
  have hx20 := (hg.cnt (k := 2) rfl).2
  have hc30 := (hg.cnt (k := 0) rfl).2
  have ht10 := (hg.cnt (k := 3) rfl).2
  have he40 := (hg.cnt (k := 4) rfl).2
  have hs16 := hg.cnt (k := 1) rfl
  refine KC.of (ls := [_, _, _, _, _]) rfl rfl (Nat.le_of_ble_eq_true rfl) ?_
  refine kv_iload_n dX12_sheet_0 rfl ?_
  refine kw_Si [_] mX12_isSheet dX12_sheet_1 lX12_359 wX12_isSheet rfl rfl rfl (qX12_isSheet (by exact hu) _) (by decide) ?_
  refine kw_beq dX12_sheet_4 29 (by decide) (fun h1 => ?_) (fun h1 => ?_)
  · have hS : ksheet a p0 p1 p2 = (-1000001, kF a 1) := if_pos (Or.inl (kIn_n h1))
    refine kv_aload_n dX12_sheet_29 rfl ?_
    refine kv_ldc dX12_sheet_30 kX12_83 ?_
    refine kw_Vi [_] mX12_finding dX12_sheet_32 lX12_84 wX12_finding kC12 hu rfl (by first | rfl | assumption) rfl rfl rfl (qX12_finding (by exact hu) 1 (by decide) (by decide) _ (by decide)) (by decide) ?_
    exact kv_iret dX12_sheet_35 rfl (by rw [hS]; exact kOM.no hm hu rfl)
  · have n1 : ¬ kOut p0 0 3 := kIn_y h1
    refine kv_iload_n dX12_sheet_7 rfl ?_
    refine kv_if_eq dX12_sheet_8 36 (by decide) (fun h2 => ?_) (fun h2 => ?_)
    · have n2 : kBt p1 := Or.inl h2
      have hS : ksheet a p0 p1 p2 = _ := if_neg (fun q => q.elim n1 (fun q => q n2))
      obtain ⟨s, hs3, rfl⟩ := kOut.bd (n := 3) (by omega) n1
      have hs : s < 4 := by omega
      rw [nI_clamp (by omega)] at hS
      refine kv_iload_n dX12_sheet_36 rfl ?_
      refine kv_if_eq dX12_sheet_37 52 (by decide) (fun h3 => ?_) (fun h3 => ?_)
      · have z := h3
        rw [if_neg (fun q => q.1 z), if_neg (fun q => q.1 z)] at hS
        refine kv_iload_n dX12_sheet_52 rfl ?_
        refine kv_if_eq dX12_sheet_53 69 (by decide) (fun h4 => ?_) (fun h4 => ?_)
        · refine kv_aload_n dX12_sheet_69 rfl ?_
          refine kw_gR dX12_sheet_70 fX12_65 hu (by first | rfl | assumption) rfl rfl (by first | rfl | assumption) ?_
          refine kv_iload_n dX12_sheet_73 rfl ?_
          refine kv_iload_n dX12_sheet_74 rfl ?_
          refine kw_is dX12_sheet_75 hu (by first | rfl | assumption) (s) rfl (by omega) rfl ?_
          refine kv_aload_n dX12_sheet_76 rfl ?_
          refine kw_gR dX12_sheet_77 fX12_68 hu (by first | rfl | assumption) rfl rfl (by first | rfl | assumption) ?_
          refine kv_iload_n dX12_sheet_80 rfl ?_
          refine kv_iload_n dX12_sheet_81 rfl ?_
          refine kv_if_ne dX12_sheet_82 89 (by decide) (fun h5 => ?_) (fun h5 => ?_)
          · exact absurd z h5
          · refine kv_iconst dX12_sheet_85 0 ki_0 ?_
            refine kv_goto dX12_sheet_86 90 (by decide) ?_
            refine kw_is dX12_sheet_90 hu (by first | rfl | assumption) (s) rfl (by omega) rfl ?_
            refine kv_iconst dX12_sheet_91 0 ki_0 ?_
            refine kv_istore (ls2 := [_, _, _, _, _]) dX12_sheet_92 rfl rfl rfl rfl ?_
            refine KV.loc (ls2 := [some (.ref 413), some (.int (nI s)), some (.int p1), some (.int p2), some (.int (nI (0)))]) ?_ (ksS rfl (ksS rfl (ksS rfl (ksS rfl (ksS rfl ksN)))))
            refine kn_loop (P := fun i => ∀ v : KMem, kWd v → v.2.1 431 = kZr (a 8) (24 * s) i → v.2.1 429 = kSet (a 6) s p1 → v.2.1 430 = kSet (a 7) s (if p1 = 0 then 0 else p2) → (∀ b, b ≠ 429 → b ≠ 430 → b ≠ 431 → v.2.1 b = u.2.1 b) → KV w l mX12_sheet 2 0 0 94 [some (.ref 413), some (.int (nI s)), some (.int p1), some (.int p2), some (.int (nI i))] [] v (kOM u (ksheet a (nI s) p1 p2).1 (ksheet a (nI s) p1 p2).2)) (24) ?_ (fun i hi ih => ?_) _ hu (by rw [kZr_0, kv_si_row (by omega), kv_si_row (by omega)]; exact hm.2.2.2.2.2.2.2.2.1) (by rw [kv_si_row (by omega), kv_si_set, hm.2.2.2.2.2.2.1]) (by rw [kv_si_set, kv_si_row (by omega), hm.2.2.2.2.2.2.2.1]; first | rw [if_pos z] | rw [if_neg z]) (fun b h1 h2 h3 => by rw [kv_si_row h2, kv_si_row h1])
            · intro v hv r8 r6 r7 hb
              refine kv_iload dX12_sheet_94 rfl ?_
              refine kv_bipush dX12_sheet_96 24 kb_24 ?_
              refine kv_icmp_ge dX12_sheet_98 120 (by decide) (fun h6 => ?_) (fun h6 => ?_)
              · refine kv_iconst dX12_sheet_120 1 ki_1 ?_
                exact kv_iret dX12_sheet_121 rfl (by rw [hS]; exact ⟨rfl, hv, fun b hb2 => hb b (by omega) (by omega) (by omega), hm.sh kShG_j (fun b q1 q2 q3 q4 q5 => hb b q2 q3 q4) (r6.trans (kShG_6 a s p1 (if p1 = 0 then 0 else p2)).symm) (r7.trans (kShG_7 a s p1 (if p1 = 0 then 0 else p2)).symm) (r8.trans (kShG_8 a s p1 (if p1 = 0 then 0 else p2)).symm)⟩)
              · exact absurd (Int32.le_refl (nI 24)) h6
            · intro v hv r8 r6 r7 hb
              refine kv_iload dX12_sheet_94 rfl ?_
              refine kv_bipush dX12_sheet_96 24 kb_24 ?_
              refine kv_icmp_ge dX12_sheet_98 120 (by decide) (fun h7 => ?_) (fun h7 => ?_)
              · exact absurd h7 (kn_ge (n := 24) hi (by omega))
              · refine kv_aload_n dX12_sheet_101 rfl ?_
                refine kw_gR dX12_sheet_102 fX12_71 hv (by first | rfl | assumption) rfl rfl (by first | rfl | assumption) ?_
                refine kv_bipush dX12_sheet_105 24 kb_24 ?_
                refine kv_iload_n dX12_sheet_107 rfl ?_
                refine kv_imul dX12_sheet_108 ?_
                refine kv_iload dX12_sheet_109 rfl ?_
                refine kv_iadd dX12_sheet_111 ?_
                refine kv_iconst dX12_sheet_112 0 ki_0 ?_
                refine kw_is dX12_sheet_113 hv (by first | rfl | assumption) (24 * s + i) (kn_add (kn_mul (show (24 : Int32) = nI 24 from rfl) rfl) rfl) (by omega) rfl ?_
                refine kv_iinc (ls2 := [_, _, _, _, _]) dX12_sheet_114 (nI (i + 1)) rfl (kv_inc1 i) rfl rfl rfl rfl ?_
                refine kv_goto dX12_sheet_117 94 (by decide) ?_
                exact KV.loc (ih _ hv (by rw [kv_si_set, r8, kZr_step]) (by rw [kv_si_row (by omega)]; exact r6) (by rw [kv_si_row (by omega)]; exact r7) (fun b h1 h2 h3 => by rw [kv_si_row h3]; exact hb b h1 h2 h3)) (ksS rfl (ksS rfl (ksS rfl (ksS rfl (ksS rfl ksN)))))
        · exact absurd z h4
      · have z := h3
        refine kv_iload_n dX12_sheet_40 rfl ?_
        refine kv_if_ge dX12_sheet_41 52 (by decide) (fun h8 => ?_) (fun h8 => ?_)
        · rw [if_neg (fun q => Int32.not_lt.mpr h8 q.2)] at hS
          refine kv_iload_n dX12_sheet_52 rfl ?_
          refine kv_if_eq dX12_sheet_53 69 (by decide) (fun h9 => ?_) (fun h9 => ?_)
          · exact absurd h9 z
          · refine kv_iload_n dX12_sheet_56 rfl ?_
            refine kv_bipush dX12_sheet_57 24 kb_24 ?_
            refine kv_icmp_le dX12_sheet_59 69 (by decide) (fun h10 => ?_) (fun h10 => ?_)
            · rw [if_neg (fun q => q.2 h10)] at hS
              refine kv_aload_n dX12_sheet_69 rfl ?_
              refine kw_gR dX12_sheet_70 fX12_65 hu (by first | rfl | assumption) rfl rfl (by first | rfl | assumption) ?_
              refine kv_iload_n dX12_sheet_73 rfl ?_
              refine kv_iload_n dX12_sheet_74 rfl ?_
              refine kw_is dX12_sheet_75 hu (by first | rfl | assumption) (s) rfl (by omega) rfl ?_
              refine kv_aload_n dX12_sheet_76 rfl ?_
              refine kw_gR dX12_sheet_77 fX12_68 hu (by first | rfl | assumption) rfl rfl (by first | rfl | assumption) ?_
              refine kv_iload_n dX12_sheet_80 rfl ?_
              refine kv_iload_n dX12_sheet_81 rfl ?_
              refine kv_if_ne dX12_sheet_82 89 (by decide) (fun h11 => ?_) (fun h11 => ?_)
              · refine kv_iload_n dX12_sheet_89 rfl ?_
                refine kw_is dX12_sheet_90 hu (by first | rfl | assumption) (s) rfl (by omega) rfl ?_
                refine kv_iconst dX12_sheet_91 0 ki_0 ?_
                refine kv_istore (ls2 := [_, _, _, _, _]) dX12_sheet_92 rfl rfl rfl rfl ?_
                refine KV.loc (ls2 := [some (.ref 413), some (.int (nI s)), some (.int p1), some (.int p2), some (.int (nI (0)))]) ?_ (ksS rfl (ksS rfl (ksS rfl (ksS rfl (ksS rfl ksN)))))
                refine kn_loop (P := fun i => ∀ v : KMem, kWd v → v.2.1 431 = kZr (a 8) (24 * s) i → v.2.1 429 = kSet (a 6) s p1 → v.2.1 430 = kSet (a 7) s (if p1 = 0 then 0 else p2) → (∀ b, b ≠ 429 → b ≠ 430 → b ≠ 431 → v.2.1 b = u.2.1 b) → KV w l mX12_sheet 2 0 0 94 [some (.ref 413), some (.int (nI s)), some (.int p1), some (.int p2), some (.int (nI i))] [] v (kOM u (ksheet a (nI s) p1 p2).1 (ksheet a (nI s) p1 p2).2)) (24) ?_ (fun i hi ih => ?_) _ hu (by rw [kZr_0, kv_si_row (by omega), kv_si_row (by omega)]; exact hm.2.2.2.2.2.2.2.2.1) (by rw [kv_si_row (by omega), kv_si_set, hm.2.2.2.2.2.2.1]) (by rw [kv_si_set, kv_si_row (by omega), hm.2.2.2.2.2.2.2.1]; first | rw [if_pos z] | rw [if_neg z]) (fun b h1 h2 h3 => by rw [kv_si_row h2, kv_si_row h1])
                · intro v hv r8 r6 r7 hb
                  refine kv_iload dX12_sheet_94 rfl ?_
                  refine kv_bipush dX12_sheet_96 24 kb_24 ?_
                  refine kv_icmp_ge dX12_sheet_98 120 (by decide) (fun h12 => ?_) (fun h12 => ?_)
                  · refine kv_iconst dX12_sheet_120 1 ki_1 ?_
                    exact kv_iret dX12_sheet_121 rfl (by rw [hS]; exact ⟨rfl, hv, fun b hb2 => hb b (by omega) (by omega) (by omega), hm.sh kShG_j (fun b q1 q2 q3 q4 q5 => hb b q2 q3 q4) (r6.trans (kShG_6 a s p1 (if p1 = 0 then 0 else p2)).symm) (r7.trans (kShG_7 a s p1 (if p1 = 0 then 0 else p2)).symm) (r8.trans (kShG_8 a s p1 (if p1 = 0 then 0 else p2)).symm)⟩)
                  · exact absurd (Int32.le_refl (nI 24)) h12
                · intro v hv r8 r6 r7 hb
                  refine kv_iload dX12_sheet_94 rfl ?_
                  refine kv_bipush dX12_sheet_96 24 kb_24 ?_
                  refine kv_icmp_ge dX12_sheet_98 120 (by decide) (fun h13 => ?_) (fun h13 => ?_)
                  · exact absurd h13 (kn_ge (n := 24) hi (by omega))
                  · refine kv_aload_n dX12_sheet_101 rfl ?_
                    refine kw_gR dX12_sheet_102 fX12_71 hv (by first | rfl | assumption) rfl rfl (by first | rfl | assumption) ?_
                    refine kv_bipush dX12_sheet_105 24 kb_24 ?_
                    refine kv_iload_n dX12_sheet_107 rfl ?_
                    refine kv_imul dX12_sheet_108 ?_
                    refine kv_iload dX12_sheet_109 rfl ?_
                    refine kv_iadd dX12_sheet_111 ?_
                    refine kv_iconst dX12_sheet_112 0 ki_0 ?_
                    refine kw_is dX12_sheet_113 hv (by first | rfl | assumption) (24 * s + i) (kn_add (kn_mul (show (24 : Int32) = nI 24 from rfl) rfl) rfl) (by omega) rfl ?_
                    refine kv_iinc (ls2 := [_, _, _, _, _]) dX12_sheet_114 (nI (i + 1)) rfl (kv_inc1 i) rfl rfl rfl rfl ?_
                    refine kv_goto dX12_sheet_117 94 (by decide) ?_
                    exact KV.loc (ih _ hv (by rw [kv_si_set, r8, kZr_step]) (by rw [kv_si_row (by omega)]; exact r6) (by rw [kv_si_row (by omega)]; exact r7) (fun b h1 h2 h3 => by rw [kv_si_row h3]; exact hb b h1 h2 h3)) (ksS rfl (ksS rfl (ksS rfl (ksS rfl (ksS rfl ksN)))))
              · exact absurd h11 z
            · rw [if_pos ⟨z, h10⟩] at hS
              refine kv_aload_n dX12_sheet_62 rfl ?_
              refine kv_ldc dX12_sheet_63 kX12_83 ?_
              refine kw_Vi [_] mX12_finding dX12_sheet_65 lX12_84 wX12_finding kC12 hu rfl (by first | rfl | assumption) rfl rfl rfl (qX12_finding (by exact hu) 1 (by decide) (by decide) _ (by decide)) (by decide) ?_
              exact kv_iret dX12_sheet_68 rfl (by rw [hS]; exact kOM.no hm hu rfl)
        · rw [if_pos ⟨z, Int32.not_le.mp h8⟩] at hS
          refine kv_aload_n dX12_sheet_44 rfl ?_
          refine kv_ldcw dX12_sheet_45 kX12_390 ?_
          refine kw_Vi [_] mX12_finding dX12_sheet_48 lX12_84 wX12_finding kC12 hu rfl (by first | rfl | assumption) rfl rfl rfl (qX12_finding (by exact hu) 3 (by decide) (by decide) _ (by decide)) (by decide) ?_
          exact kv_iret dX12_sheet_51 rfl (by rw [hS]; exact kOM.no hm hu rfl)
    · have z0 : ¬ p1 = 0 := h2
      refine kv_iload_n dX12_sheet_11 rfl ?_
      refine kv_bipush dX12_sheet_12 8 kb_8 ?_
      refine kv_icmp_eq dX12_sheet_14 36 (by decide) (fun h14 => ?_) (fun h14 => ?_)
      · have n2 : kBt p1 := Or.inr (Or.inl h14)
        have hS : ksheet a p0 p1 p2 = _ := if_neg (fun q => q.elim n1 (fun q => q n2))
        obtain ⟨s, hs3, rfl⟩ := kOut.bd (n := 3) (by omega) n1
        have hs : s < 4 := by omega
        rw [nI_clamp (by omega)] at hS
        refine kv_iload_n dX12_sheet_36 rfl ?_
        refine kv_if_eq dX12_sheet_37 52 (by decide) (fun h15 => ?_) (fun h15 => ?_)
        · have z := h15
          rw [if_neg (fun q => q.1 z), if_neg (fun q => q.1 z)] at hS
          refine kv_iload_n dX12_sheet_52 rfl ?_
          refine kv_if_eq dX12_sheet_53 69 (by decide) (fun h16 => ?_) (fun h16 => ?_)
          · refine kv_aload_n dX12_sheet_69 rfl ?_
            refine kw_gR dX12_sheet_70 fX12_65 hu (by first | rfl | assumption) rfl rfl (by first | rfl | assumption) ?_
            refine kv_iload_n dX12_sheet_73 rfl ?_
            refine kv_iload_n dX12_sheet_74 rfl ?_
            refine kw_is dX12_sheet_75 hu (by first | rfl | assumption) (s) rfl (by omega) rfl ?_
            refine kv_aload_n dX12_sheet_76 rfl ?_
            refine kw_gR dX12_sheet_77 fX12_68 hu (by first | rfl | assumption) rfl rfl (by first | rfl | assumption) ?_
            refine kv_iload_n dX12_sheet_80 rfl ?_
            refine kv_iload_n dX12_sheet_81 rfl ?_
            refine kv_if_ne dX12_sheet_82 89 (by decide) (fun h17 => ?_) (fun h17 => ?_)
            · exact absurd z h17
            · refine kv_iconst dX12_sheet_85 0 ki_0 ?_
              refine kv_goto dX12_sheet_86 90 (by decide) ?_
              refine kw_is dX12_sheet_90 hu (by first | rfl | assumption) (s) rfl (by omega) rfl ?_
              refine kv_iconst dX12_sheet_91 0 ki_0 ?_
              refine kv_istore (ls2 := [_, _, _, _, _]) dX12_sheet_92 rfl rfl rfl rfl ?_
              refine KV.loc (ls2 := [some (.ref 413), some (.int (nI s)), some (.int p1), some (.int p2), some (.int (nI (0)))]) ?_ (ksS rfl (ksS rfl (ksS rfl (ksS rfl (ksS rfl ksN)))))
              refine kn_loop (P := fun i => ∀ v : KMem, kWd v → v.2.1 431 = kZr (a 8) (24 * s) i → v.2.1 429 = kSet (a 6) s p1 → v.2.1 430 = kSet (a 7) s (if p1 = 0 then 0 else p2) → (∀ b, b ≠ 429 → b ≠ 430 → b ≠ 431 → v.2.1 b = u.2.1 b) → KV w l mX12_sheet 2 0 0 94 [some (.ref 413), some (.int (nI s)), some (.int p1), some (.int p2), some (.int (nI i))] [] v (kOM u (ksheet a (nI s) p1 p2).1 (ksheet a (nI s) p1 p2).2)) (24) ?_ (fun i hi ih => ?_) _ hu (by rw [kZr_0, kv_si_row (by omega), kv_si_row (by omega)]; exact hm.2.2.2.2.2.2.2.2.1) (by rw [kv_si_row (by omega), kv_si_set, hm.2.2.2.2.2.2.1]) (by rw [kv_si_set, kv_si_row (by omega), hm.2.2.2.2.2.2.2.1]; first | rw [if_pos z] | rw [if_neg z]) (fun b h1 h2 h3 => by rw [kv_si_row h2, kv_si_row h1])
              · intro v hv r8 r6 r7 hb
                refine kv_iload dX12_sheet_94 rfl ?_
                refine kv_bipush dX12_sheet_96 24 kb_24 ?_
                refine kv_icmp_ge dX12_sheet_98 120 (by decide) (fun h18 => ?_) (fun h18 => ?_)
                · refine kv_iconst dX12_sheet_120 1 ki_1 ?_
                  exact kv_iret dX12_sheet_121 rfl (by rw [hS]; exact ⟨rfl, hv, fun b hb2 => hb b (by omega) (by omega) (by omega), hm.sh kShG_j (fun b q1 q2 q3 q4 q5 => hb b q2 q3 q4) (r6.trans (kShG_6 a s p1 (if p1 = 0 then 0 else p2)).symm) (r7.trans (kShG_7 a s p1 (if p1 = 0 then 0 else p2)).symm) (r8.trans (kShG_8 a s p1 (if p1 = 0 then 0 else p2)).symm)⟩)
                · exact absurd (Int32.le_refl (nI 24)) h18
              · intro v hv r8 r6 r7 hb
                refine kv_iload dX12_sheet_94 rfl ?_
                refine kv_bipush dX12_sheet_96 24 kb_24 ?_
                refine kv_icmp_ge dX12_sheet_98 120 (by decide) (fun h19 => ?_) (fun h19 => ?_)
                · exact absurd h19 (kn_ge (n := 24) hi (by omega))
                · refine kv_aload_n dX12_sheet_101 rfl ?_
                  refine kw_gR dX12_sheet_102 fX12_71 hv (by first | rfl | assumption) rfl rfl (by first | rfl | assumption) ?_
                  refine kv_bipush dX12_sheet_105 24 kb_24 ?_
                  refine kv_iload_n dX12_sheet_107 rfl ?_
                  refine kv_imul dX12_sheet_108 ?_
                  refine kv_iload dX12_sheet_109 rfl ?_
                  refine kv_iadd dX12_sheet_111 ?_
                  refine kv_iconst dX12_sheet_112 0 ki_0 ?_
                  refine kw_is dX12_sheet_113 hv (by first | rfl | assumption) (24 * s + i) (kn_add (kn_mul (show (24 : Int32) = nI 24 from rfl) rfl) rfl) (by omega) rfl ?_
                  refine kv_iinc (ls2 := [_, _, _, _, _]) dX12_sheet_114 (nI (i + 1)) rfl (kv_inc1 i) rfl rfl rfl rfl ?_
                  refine kv_goto dX12_sheet_117 94 (by decide) ?_
                  exact KV.loc (ih _ hv (by rw [kv_si_set, r8, kZr_step]) (by rw [kv_si_row (by omega)]; exact r6) (by rw [kv_si_row (by omega)]; exact r7) (fun b h1 h2 h3 => by rw [kv_si_row h3]; exact hb b h1 h2 h3)) (ksS rfl (ksS rfl (ksS rfl (ksS rfl (ksS rfl ksN)))))
          · exact absurd z h16
        · have z := h15
          refine kv_iload_n dX12_sheet_40 rfl ?_
          refine kv_if_ge dX12_sheet_41 52 (by decide) (fun h20 => ?_) (fun h20 => ?_)
          · rw [if_neg (fun q => Int32.not_lt.mpr h20 q.2)] at hS
            refine kv_iload_n dX12_sheet_52 rfl ?_
            refine kv_if_eq dX12_sheet_53 69 (by decide) (fun h21 => ?_) (fun h21 => ?_)
            · exact absurd h21 z
            · refine kv_iload_n dX12_sheet_56 rfl ?_
              refine kv_bipush dX12_sheet_57 24 kb_24 ?_
              refine kv_icmp_le dX12_sheet_59 69 (by decide) (fun h22 => ?_) (fun h22 => ?_)
              · rw [if_neg (fun q => q.2 h22)] at hS
                refine kv_aload_n dX12_sheet_69 rfl ?_
                refine kw_gR dX12_sheet_70 fX12_65 hu (by first | rfl | assumption) rfl rfl (by first | rfl | assumption) ?_
                refine kv_iload_n dX12_sheet_73 rfl ?_
                refine kv_iload_n dX12_sheet_74 rfl ?_
                refine kw_is dX12_sheet_75 hu (by first | rfl | assumption) (s) rfl (by omega) rfl ?_
                refine kv_aload_n dX12_sheet_76 rfl ?_
                refine kw_gR dX12_sheet_77 fX12_68 hu (by first | rfl | assumption) rfl rfl (by first | rfl | assumption) ?_
                refine kv_iload_n dX12_sheet_80 rfl ?_
                refine kv_iload_n dX12_sheet_81 rfl ?_
                refine kv_if_ne dX12_sheet_82 89 (by decide) (fun h23 => ?_) (fun h23 => ?_)
                · refine kv_iload_n dX12_sheet_89 rfl ?_
                  refine kw_is dX12_sheet_90 hu (by first | rfl | assumption) (s) rfl (by omega) rfl ?_
                  refine kv_iconst dX12_sheet_91 0 ki_0 ?_
                  refine kv_istore (ls2 := [_, _, _, _, _]) dX12_sheet_92 rfl rfl rfl rfl ?_
                  refine KV.loc (ls2 := [some (.ref 413), some (.int (nI s)), some (.int p1), some (.int p2), some (.int (nI (0)))]) ?_ (ksS rfl (ksS rfl (ksS rfl (ksS rfl (ksS rfl ksN)))))
                  refine kn_loop (P := fun i => ∀ v : KMem, kWd v → v.2.1 431 = kZr (a 8) (24 * s) i → v.2.1 429 = kSet (a 6) s p1 → v.2.1 430 = kSet (a 7) s (if p1 = 0 then 0 else p2) → (∀ b, b ≠ 429 → b ≠ 430 → b ≠ 431 → v.2.1 b = u.2.1 b) → KV w l mX12_sheet 2 0 0 94 [some (.ref 413), some (.int (nI s)), some (.int p1), some (.int p2), some (.int (nI i))] [] v (kOM u (ksheet a (nI s) p1 p2).1 (ksheet a (nI s) p1 p2).2)) (24) ?_ (fun i hi ih => ?_) _ hu (by rw [kZr_0, kv_si_row (by omega), kv_si_row (by omega)]; exact hm.2.2.2.2.2.2.2.2.1) (by rw [kv_si_row (by omega), kv_si_set, hm.2.2.2.2.2.2.1]) (by rw [kv_si_set, kv_si_row (by omega), hm.2.2.2.2.2.2.2.1]; first | rw [if_pos z] | rw [if_neg z]) (fun b h1 h2 h3 => by rw [kv_si_row h2, kv_si_row h1])
                  · intro v hv r8 r6 r7 hb
                    refine kv_iload dX12_sheet_94 rfl ?_
                    refine kv_bipush dX12_sheet_96 24 kb_24 ?_
                    refine kv_icmp_ge dX12_sheet_98 120 (by decide) (fun h24 => ?_) (fun h24 => ?_)
                    · refine kv_iconst dX12_sheet_120 1 ki_1 ?_
                      exact kv_iret dX12_sheet_121 rfl (by rw [hS]; exact ⟨rfl, hv, fun b hb2 => hb b (by omega) (by omega) (by omega), hm.sh kShG_j (fun b q1 q2 q3 q4 q5 => hb b q2 q3 q4) (r6.trans (kShG_6 a s p1 (if p1 = 0 then 0 else p2)).symm) (r7.trans (kShG_7 a s p1 (if p1 = 0 then 0 else p2)).symm) (r8.trans (kShG_8 a s p1 (if p1 = 0 then 0 else p2)).symm)⟩)
                    · exact absurd (Int32.le_refl (nI 24)) h24
                  · intro v hv r8 r6 r7 hb
                    refine kv_iload dX12_sheet_94 rfl ?_
                    refine kv_bipush dX12_sheet_96 24 kb_24 ?_
                    refine kv_icmp_ge dX12_sheet_98 120 (by decide) (fun h25 => ?_) (fun h25 => ?_)
                    · exact absurd h25 (kn_ge (n := 24) hi (by omega))
                    · refine kv_aload_n dX12_sheet_101 rfl ?_
                      refine kw_gR dX12_sheet_102 fX12_71 hv (by first | rfl | assumption) rfl rfl (by first | rfl | assumption) ?_
                      refine kv_bipush dX12_sheet_105 24 kb_24 ?_
                      refine kv_iload_n dX12_sheet_107 rfl ?_
                      refine kv_imul dX12_sheet_108 ?_
                      refine kv_iload dX12_sheet_109 rfl ?_
                      refine kv_iadd dX12_sheet_111 ?_
                      refine kv_iconst dX12_sheet_112 0 ki_0 ?_
                      refine kw_is dX12_sheet_113 hv (by first | rfl | assumption) (24 * s + i) (kn_add (kn_mul (show (24 : Int32) = nI 24 from rfl) rfl) rfl) (by omega) rfl ?_
                      refine kv_iinc (ls2 := [_, _, _, _, _]) dX12_sheet_114 (nI (i + 1)) rfl (kv_inc1 i) rfl rfl rfl rfl ?_
                      refine kv_goto dX12_sheet_117 94 (by decide) ?_
                      exact KV.loc (ih _ hv (by rw [kv_si_set, r8, kZr_step]) (by rw [kv_si_row (by omega)]; exact r6) (by rw [kv_si_row (by omega)]; exact r7) (fun b h1 h2 h3 => by rw [kv_si_row h3]; exact hb b h1 h2 h3)) (ksS rfl (ksS rfl (ksS rfl (ksS rfl (ksS rfl ksN)))))
                · exact absurd h23 z
              · rw [if_pos ⟨z, h22⟩] at hS
                refine kv_aload_n dX12_sheet_62 rfl ?_
                refine kv_ldc dX12_sheet_63 kX12_83 ?_
                refine kw_Vi [_] mX12_finding dX12_sheet_65 lX12_84 wX12_finding kC12 hu rfl (by first | rfl | assumption) rfl rfl rfl (qX12_finding (by exact hu) 1 (by decide) (by decide) _ (by decide)) (by decide) ?_
                exact kv_iret dX12_sheet_68 rfl (by rw [hS]; exact kOM.no hm hu rfl)
          · rw [if_pos ⟨z, Int32.not_le.mp h20⟩] at hS
            refine kv_aload_n dX12_sheet_44 rfl ?_
            refine kv_ldcw dX12_sheet_45 kX12_390 ?_
            refine kw_Vi [_] mX12_finding dX12_sheet_48 lX12_84 wX12_finding kC12 hu rfl (by first | rfl | assumption) rfl rfl rfl (qX12_finding (by exact hu) 3 (by decide) (by decide) _ (by decide)) (by decide) ?_
            exact kv_iret dX12_sheet_51 rfl (by rw [hS]; exact kOM.no hm hu rfl)
      · have z1 : ¬ p1 = 8 := h14
        refine kv_iload_n dX12_sheet_17 rfl ?_
        refine kv_bipush dX12_sheet_18 16 kb_16 ?_
        refine kv_icmp_eq dX12_sheet_20 36 (by decide) (fun h26 => ?_) (fun h26 => ?_)
        · have n2 : kBt p1 := Or.inr (Or.inr (Or.inl h26))
          have hS : ksheet a p0 p1 p2 = _ := if_neg (fun q => q.elim n1 (fun q => q n2))
          obtain ⟨s, hs3, rfl⟩ := kOut.bd (n := 3) (by omega) n1
          have hs : s < 4 := by omega
          rw [nI_clamp (by omega)] at hS
          refine kv_iload_n dX12_sheet_36 rfl ?_
          refine kv_if_eq dX12_sheet_37 52 (by decide) (fun h27 => ?_) (fun h27 => ?_)
          · have z := h27
            rw [if_neg (fun q => q.1 z), if_neg (fun q => q.1 z)] at hS
            refine kv_iload_n dX12_sheet_52 rfl ?_
            refine kv_if_eq dX12_sheet_53 69 (by decide) (fun h28 => ?_) (fun h28 => ?_)
            · refine kv_aload_n dX12_sheet_69 rfl ?_
              refine kw_gR dX12_sheet_70 fX12_65 hu (by first | rfl | assumption) rfl rfl (by first | rfl | assumption) ?_
              refine kv_iload_n dX12_sheet_73 rfl ?_
              refine kv_iload_n dX12_sheet_74 rfl ?_
              refine kw_is dX12_sheet_75 hu (by first | rfl | assumption) (s) rfl (by omega) rfl ?_
              refine kv_aload_n dX12_sheet_76 rfl ?_
              refine kw_gR dX12_sheet_77 fX12_68 hu (by first | rfl | assumption) rfl rfl (by first | rfl | assumption) ?_
              refine kv_iload_n dX12_sheet_80 rfl ?_
              refine kv_iload_n dX12_sheet_81 rfl ?_
              refine kv_if_ne dX12_sheet_82 89 (by decide) (fun h29 => ?_) (fun h29 => ?_)
              · exact absurd z h29
              · refine kv_iconst dX12_sheet_85 0 ki_0 ?_
                refine kv_goto dX12_sheet_86 90 (by decide) ?_
                refine kw_is dX12_sheet_90 hu (by first | rfl | assumption) (s) rfl (by omega) rfl ?_
                refine kv_iconst dX12_sheet_91 0 ki_0 ?_
                refine kv_istore (ls2 := [_, _, _, _, _]) dX12_sheet_92 rfl rfl rfl rfl ?_
                refine KV.loc (ls2 := [some (.ref 413), some (.int (nI s)), some (.int p1), some (.int p2), some (.int (nI (0)))]) ?_ (ksS rfl (ksS rfl (ksS rfl (ksS rfl (ksS rfl ksN)))))
                refine kn_loop (P := fun i => ∀ v : KMem, kWd v → v.2.1 431 = kZr (a 8) (24 * s) i → v.2.1 429 = kSet (a 6) s p1 → v.2.1 430 = kSet (a 7) s (if p1 = 0 then 0 else p2) → (∀ b, b ≠ 429 → b ≠ 430 → b ≠ 431 → v.2.1 b = u.2.1 b) → KV w l mX12_sheet 2 0 0 94 [some (.ref 413), some (.int (nI s)), some (.int p1), some (.int p2), some (.int (nI i))] [] v (kOM u (ksheet a (nI s) p1 p2).1 (ksheet a (nI s) p1 p2).2)) (24) ?_ (fun i hi ih => ?_) _ hu (by rw [kZr_0, kv_si_row (by omega), kv_si_row (by omega)]; exact hm.2.2.2.2.2.2.2.2.1) (by rw [kv_si_row (by omega), kv_si_set, hm.2.2.2.2.2.2.1]) (by rw [kv_si_set, kv_si_row (by omega), hm.2.2.2.2.2.2.2.1]; first | rw [if_pos z] | rw [if_neg z]) (fun b h1 h2 h3 => by rw [kv_si_row h2, kv_si_row h1])
                · intro v hv r8 r6 r7 hb
                  refine kv_iload dX12_sheet_94 rfl ?_
                  refine kv_bipush dX12_sheet_96 24 kb_24 ?_
                  refine kv_icmp_ge dX12_sheet_98 120 (by decide) (fun h30 => ?_) (fun h30 => ?_)
                  · refine kv_iconst dX12_sheet_120 1 ki_1 ?_
                    exact kv_iret dX12_sheet_121 rfl (by rw [hS]; exact ⟨rfl, hv, fun b hb2 => hb b (by omega) (by omega) (by omega), hm.sh kShG_j (fun b q1 q2 q3 q4 q5 => hb b q2 q3 q4) (r6.trans (kShG_6 a s p1 (if p1 = 0 then 0 else p2)).symm) (r7.trans (kShG_7 a s p1 (if p1 = 0 then 0 else p2)).symm) (r8.trans (kShG_8 a s p1 (if p1 = 0 then 0 else p2)).symm)⟩)
                  · exact absurd (Int32.le_refl (nI 24)) h30
                · intro v hv r8 r6 r7 hb
                  refine kv_iload dX12_sheet_94 rfl ?_
                  refine kv_bipush dX12_sheet_96 24 kb_24 ?_
                  refine kv_icmp_ge dX12_sheet_98 120 (by decide) (fun h31 => ?_) (fun h31 => ?_)
                  · exact absurd h31 (kn_ge (n := 24) hi (by omega))
                  · refine kv_aload_n dX12_sheet_101 rfl ?_
                    refine kw_gR dX12_sheet_102 fX12_71 hv (by first | rfl | assumption) rfl rfl (by first | rfl | assumption) ?_
                    refine kv_bipush dX12_sheet_105 24 kb_24 ?_
                    refine kv_iload_n dX12_sheet_107 rfl ?_
                    refine kv_imul dX12_sheet_108 ?_
                    refine kv_iload dX12_sheet_109 rfl ?_
                    refine kv_iadd dX12_sheet_111 ?_
                    refine kv_iconst dX12_sheet_112 0 ki_0 ?_
                    refine kw_is dX12_sheet_113 hv (by first | rfl | assumption) (24 * s + i) (kn_add (kn_mul (show (24 : Int32) = nI 24 from rfl) rfl) rfl) (by omega) rfl ?_
                    refine kv_iinc (ls2 := [_, _, _, _, _]) dX12_sheet_114 (nI (i + 1)) rfl (kv_inc1 i) rfl rfl rfl rfl ?_
                    refine kv_goto dX12_sheet_117 94 (by decide) ?_
                    exact KV.loc (ih _ hv (by rw [kv_si_set, r8, kZr_step]) (by rw [kv_si_row (by omega)]; exact r6) (by rw [kv_si_row (by omega)]; exact r7) (fun b h1 h2 h3 => by rw [kv_si_row h3]; exact hb b h1 h2 h3)) (ksS rfl (ksS rfl (ksS rfl (ksS rfl (ksS rfl ksN)))))
            · exact absurd z h28
          · have z := h27
            refine kv_iload_n dX12_sheet_40 rfl ?_
            refine kv_if_ge dX12_sheet_41 52 (by decide) (fun h32 => ?_) (fun h32 => ?_)
            · rw [if_neg (fun q => Int32.not_lt.mpr h32 q.2)] at hS
              refine kv_iload_n dX12_sheet_52 rfl ?_
              refine kv_if_eq dX12_sheet_53 69 (by decide) (fun h33 => ?_) (fun h33 => ?_)
              · exact absurd h33 z
              · refine kv_iload_n dX12_sheet_56 rfl ?_
                refine kv_bipush dX12_sheet_57 24 kb_24 ?_
                refine kv_icmp_le dX12_sheet_59 69 (by decide) (fun h34 => ?_) (fun h34 => ?_)
                · rw [if_neg (fun q => q.2 h34)] at hS
                  refine kv_aload_n dX12_sheet_69 rfl ?_
                  refine kw_gR dX12_sheet_70 fX12_65 hu (by first | rfl | assumption) rfl rfl (by first | rfl | assumption) ?_
                  refine kv_iload_n dX12_sheet_73 rfl ?_
                  refine kv_iload_n dX12_sheet_74 rfl ?_
                  refine kw_is dX12_sheet_75 hu (by first | rfl | assumption) (s) rfl (by omega) rfl ?_
                  refine kv_aload_n dX12_sheet_76 rfl ?_
                  refine kw_gR dX12_sheet_77 fX12_68 hu (by first | rfl | assumption) rfl rfl (by first | rfl | assumption) ?_
                  refine kv_iload_n dX12_sheet_80 rfl ?_
                  refine kv_iload_n dX12_sheet_81 rfl ?_
                  refine kv_if_ne dX12_sheet_82 89 (by decide) (fun h35 => ?_) (fun h35 => ?_)
                  · refine kv_iload_n dX12_sheet_89 rfl ?_
                    refine kw_is dX12_sheet_90 hu (by first | rfl | assumption) (s) rfl (by omega) rfl ?_
                    refine kv_iconst dX12_sheet_91 0 ki_0 ?_
                    refine kv_istore (ls2 := [_, _, _, _, _]) dX12_sheet_92 rfl rfl rfl rfl ?_
                    refine KV.loc (ls2 := [some (.ref 413), some (.int (nI s)), some (.int p1), some (.int p2), some (.int (nI (0)))]) ?_ (ksS rfl (ksS rfl (ksS rfl (ksS rfl (ksS rfl ksN)))))
                    refine kn_loop (P := fun i => ∀ v : KMem, kWd v → v.2.1 431 = kZr (a 8) (24 * s) i → v.2.1 429 = kSet (a 6) s p1 → v.2.1 430 = kSet (a 7) s (if p1 = 0 then 0 else p2) → (∀ b, b ≠ 429 → b ≠ 430 → b ≠ 431 → v.2.1 b = u.2.1 b) → KV w l mX12_sheet 2 0 0 94 [some (.ref 413), some (.int (nI s)), some (.int p1), some (.int p2), some (.int (nI i))] [] v (kOM u (ksheet a (nI s) p1 p2).1 (ksheet a (nI s) p1 p2).2)) (24) ?_ (fun i hi ih => ?_) _ hu (by rw [kZr_0, kv_si_row (by omega), kv_si_row (by omega)]; exact hm.2.2.2.2.2.2.2.2.1) (by rw [kv_si_row (by omega), kv_si_set, hm.2.2.2.2.2.2.1]) (by rw [kv_si_set, kv_si_row (by omega), hm.2.2.2.2.2.2.2.1]; first | rw [if_pos z] | rw [if_neg z]) (fun b h1 h2 h3 => by rw [kv_si_row h2, kv_si_row h1])
                    · intro v hv r8 r6 r7 hb
                      refine kv_iload dX12_sheet_94 rfl ?_
                      refine kv_bipush dX12_sheet_96 24 kb_24 ?_
                      refine kv_icmp_ge dX12_sheet_98 120 (by decide) (fun h36 => ?_) (fun h36 => ?_)
                      · refine kv_iconst dX12_sheet_120 1 ki_1 ?_
                        exact kv_iret dX12_sheet_121 rfl (by rw [hS]; exact ⟨rfl, hv, fun b hb2 => hb b (by omega) (by omega) (by omega), hm.sh kShG_j (fun b q1 q2 q3 q4 q5 => hb b q2 q3 q4) (r6.trans (kShG_6 a s p1 (if p1 = 0 then 0 else p2)).symm) (r7.trans (kShG_7 a s p1 (if p1 = 0 then 0 else p2)).symm) (r8.trans (kShG_8 a s p1 (if p1 = 0 then 0 else p2)).symm)⟩)
                      · exact absurd (Int32.le_refl (nI 24)) h36
                    · intro v hv r8 r6 r7 hb
                      refine kv_iload dX12_sheet_94 rfl ?_
                      refine kv_bipush dX12_sheet_96 24 kb_24 ?_
                      refine kv_icmp_ge dX12_sheet_98 120 (by decide) (fun h37 => ?_) (fun h37 => ?_)
                      · exact absurd h37 (kn_ge (n := 24) hi (by omega))
                      · refine kv_aload_n dX12_sheet_101 rfl ?_
                        refine kw_gR dX12_sheet_102 fX12_71 hv (by first | rfl | assumption) rfl rfl (by first | rfl | assumption) ?_
                        refine kv_bipush dX12_sheet_105 24 kb_24 ?_
                        refine kv_iload_n dX12_sheet_107 rfl ?_
                        refine kv_imul dX12_sheet_108 ?_
                        refine kv_iload dX12_sheet_109 rfl ?_
                        refine kv_iadd dX12_sheet_111 ?_
                        refine kv_iconst dX12_sheet_112 0 ki_0 ?_
                        refine kw_is dX12_sheet_113 hv (by first | rfl | assumption) (24 * s + i) (kn_add (kn_mul (show (24 : Int32) = nI 24 from rfl) rfl) rfl) (by omega) rfl ?_
                        refine kv_iinc (ls2 := [_, _, _, _, _]) dX12_sheet_114 (nI (i + 1)) rfl (kv_inc1 i) rfl rfl rfl rfl ?_
                        refine kv_goto dX12_sheet_117 94 (by decide) ?_
                        exact KV.loc (ih _ hv (by rw [kv_si_set, r8, kZr_step]) (by rw [kv_si_row (by omega)]; exact r6) (by rw [kv_si_row (by omega)]; exact r7) (fun b h1 h2 h3 => by rw [kv_si_row h3]; exact hb b h1 h2 h3)) (ksS rfl (ksS rfl (ksS rfl (ksS rfl (ksS rfl ksN)))))
                  · exact absurd h35 z
                · rw [if_pos ⟨z, h34⟩] at hS
                  refine kv_aload_n dX12_sheet_62 rfl ?_
                  refine kv_ldc dX12_sheet_63 kX12_83 ?_
                  refine kw_Vi [_] mX12_finding dX12_sheet_65 lX12_84 wX12_finding kC12 hu rfl (by first | rfl | assumption) rfl rfl rfl (qX12_finding (by exact hu) 1 (by decide) (by decide) _ (by decide)) (by decide) ?_
                  exact kv_iret dX12_sheet_68 rfl (by rw [hS]; exact kOM.no hm hu rfl)
            · rw [if_pos ⟨z, Int32.not_le.mp h32⟩] at hS
              refine kv_aload_n dX12_sheet_44 rfl ?_
              refine kv_ldcw dX12_sheet_45 kX12_390 ?_
              refine kw_Vi [_] mX12_finding dX12_sheet_48 lX12_84 wX12_finding kC12 hu rfl (by first | rfl | assumption) rfl rfl rfl (qX12_finding (by exact hu) 3 (by decide) (by decide) _ (by decide)) (by decide) ?_
              exact kv_iret dX12_sheet_51 rfl (by rw [hS]; exact kOM.no hm hu rfl)
        · have z2 : ¬ p1 = 16 := h26
          refine kv_iload_n dX12_sheet_23 rfl ?_
          refine kv_bipush dX12_sheet_24 32 kb_32 ?_
          refine kv_icmp_eq dX12_sheet_26 36 (by decide) (fun h38 => ?_) (fun h38 => ?_)
          · have n2 : kBt p1 := Or.inr (Or.inr (Or.inr h38))
            have hS : ksheet a p0 p1 p2 = _ := if_neg (fun q => q.elim n1 (fun q => q n2))
            obtain ⟨s, hs3, rfl⟩ := kOut.bd (n := 3) (by omega) n1
            have hs : s < 4 := by omega
            rw [nI_clamp (by omega)] at hS
            refine kv_iload_n dX12_sheet_36 rfl ?_
            refine kv_if_eq dX12_sheet_37 52 (by decide) (fun h39 => ?_) (fun h39 => ?_)
            · have z := h39
              rw [if_neg (fun q => q.1 z), if_neg (fun q => q.1 z)] at hS
              refine kv_iload_n dX12_sheet_52 rfl ?_
              refine kv_if_eq dX12_sheet_53 69 (by decide) (fun h40 => ?_) (fun h40 => ?_)
              · refine kv_aload_n dX12_sheet_69 rfl ?_
                refine kw_gR dX12_sheet_70 fX12_65 hu (by first | rfl | assumption) rfl rfl (by first | rfl | assumption) ?_
                refine kv_iload_n dX12_sheet_73 rfl ?_
                refine kv_iload_n dX12_sheet_74 rfl ?_
                refine kw_is dX12_sheet_75 hu (by first | rfl | assumption) (s) rfl (by omega) rfl ?_
                refine kv_aload_n dX12_sheet_76 rfl ?_
                refine kw_gR dX12_sheet_77 fX12_68 hu (by first | rfl | assumption) rfl rfl (by first | rfl | assumption) ?_
                refine kv_iload_n dX12_sheet_80 rfl ?_
                refine kv_iload_n dX12_sheet_81 rfl ?_
                refine kv_if_ne dX12_sheet_82 89 (by decide) (fun h41 => ?_) (fun h41 => ?_)
                · exact absurd z h41
                · refine kv_iconst dX12_sheet_85 0 ki_0 ?_
                  refine kv_goto dX12_sheet_86 90 (by decide) ?_
                  refine kw_is dX12_sheet_90 hu (by first | rfl | assumption) (s) rfl (by omega) rfl ?_
                  refine kv_iconst dX12_sheet_91 0 ki_0 ?_
                  refine kv_istore (ls2 := [_, _, _, _, _]) dX12_sheet_92 rfl rfl rfl rfl ?_
                  refine KV.loc (ls2 := [some (.ref 413), some (.int (nI s)), some (.int p1), some (.int p2), some (.int (nI (0)))]) ?_ (ksS rfl (ksS rfl (ksS rfl (ksS rfl (ksS rfl ksN)))))
                  refine kn_loop (P := fun i => ∀ v : KMem, kWd v → v.2.1 431 = kZr (a 8) (24 * s) i → v.2.1 429 = kSet (a 6) s p1 → v.2.1 430 = kSet (a 7) s (if p1 = 0 then 0 else p2) → (∀ b, b ≠ 429 → b ≠ 430 → b ≠ 431 → v.2.1 b = u.2.1 b) → KV w l mX12_sheet 2 0 0 94 [some (.ref 413), some (.int (nI s)), some (.int p1), some (.int p2), some (.int (nI i))] [] v (kOM u (ksheet a (nI s) p1 p2).1 (ksheet a (nI s) p1 p2).2)) (24) ?_ (fun i hi ih => ?_) _ hu (by rw [kZr_0, kv_si_row (by omega), kv_si_row (by omega)]; exact hm.2.2.2.2.2.2.2.2.1) (by rw [kv_si_row (by omega), kv_si_set, hm.2.2.2.2.2.2.1]) (by rw [kv_si_set, kv_si_row (by omega), hm.2.2.2.2.2.2.2.1]; first | rw [if_pos z] | rw [if_neg z]) (fun b h1 h2 h3 => by rw [kv_si_row h2, kv_si_row h1])
                  · intro v hv r8 r6 r7 hb
                    refine kv_iload dX12_sheet_94 rfl ?_
                    refine kv_bipush dX12_sheet_96 24 kb_24 ?_
                    refine kv_icmp_ge dX12_sheet_98 120 (by decide) (fun h42 => ?_) (fun h42 => ?_)
                    · refine kv_iconst dX12_sheet_120 1 ki_1 ?_
                      exact kv_iret dX12_sheet_121 rfl (by rw [hS]; exact ⟨rfl, hv, fun b hb2 => hb b (by omega) (by omega) (by omega), hm.sh kShG_j (fun b q1 q2 q3 q4 q5 => hb b q2 q3 q4) (r6.trans (kShG_6 a s p1 (if p1 = 0 then 0 else p2)).symm) (r7.trans (kShG_7 a s p1 (if p1 = 0 then 0 else p2)).symm) (r8.trans (kShG_8 a s p1 (if p1 = 0 then 0 else p2)).symm)⟩)
                    · exact absurd (Int32.le_refl (nI 24)) h42
                  · intro v hv r8 r6 r7 hb
                    refine kv_iload dX12_sheet_94 rfl ?_
                    refine kv_bipush dX12_sheet_96 24 kb_24 ?_
                    refine kv_icmp_ge dX12_sheet_98 120 (by decide) (fun h43 => ?_) (fun h43 => ?_)
                    · exact absurd h43 (kn_ge (n := 24) hi (by omega))
                    · refine kv_aload_n dX12_sheet_101 rfl ?_
                      refine kw_gR dX12_sheet_102 fX12_71 hv (by first | rfl | assumption) rfl rfl (by first | rfl | assumption) ?_
                      refine kv_bipush dX12_sheet_105 24 kb_24 ?_
                      refine kv_iload_n dX12_sheet_107 rfl ?_
                      refine kv_imul dX12_sheet_108 ?_
                      refine kv_iload dX12_sheet_109 rfl ?_
                      refine kv_iadd dX12_sheet_111 ?_
                      refine kv_iconst dX12_sheet_112 0 ki_0 ?_
                      refine kw_is dX12_sheet_113 hv (by first | rfl | assumption) (24 * s + i) (kn_add (kn_mul (show (24 : Int32) = nI 24 from rfl) rfl) rfl) (by omega) rfl ?_
                      refine kv_iinc (ls2 := [_, _, _, _, _]) dX12_sheet_114 (nI (i + 1)) rfl (kv_inc1 i) rfl rfl rfl rfl ?_
                      refine kv_goto dX12_sheet_117 94 (by decide) ?_
                      exact KV.loc (ih _ hv (by rw [kv_si_set, r8, kZr_step]) (by rw [kv_si_row (by omega)]; exact r6) (by rw [kv_si_row (by omega)]; exact r7) (fun b h1 h2 h3 => by rw [kv_si_row h3]; exact hb b h1 h2 h3)) (ksS rfl (ksS rfl (ksS rfl (ksS rfl (ksS rfl ksN)))))
              · exact absurd z h40
            · have z := h39
              refine kv_iload_n dX12_sheet_40 rfl ?_
              refine kv_if_ge dX12_sheet_41 52 (by decide) (fun h44 => ?_) (fun h44 => ?_)
              · rw [if_neg (fun q => Int32.not_lt.mpr h44 q.2)] at hS
                refine kv_iload_n dX12_sheet_52 rfl ?_
                refine kv_if_eq dX12_sheet_53 69 (by decide) (fun h45 => ?_) (fun h45 => ?_)
                · exact absurd h45 z
                · refine kv_iload_n dX12_sheet_56 rfl ?_
                  refine kv_bipush dX12_sheet_57 24 kb_24 ?_
                  refine kv_icmp_le dX12_sheet_59 69 (by decide) (fun h46 => ?_) (fun h46 => ?_)
                  · rw [if_neg (fun q => q.2 h46)] at hS
                    refine kv_aload_n dX12_sheet_69 rfl ?_
                    refine kw_gR dX12_sheet_70 fX12_65 hu (by first | rfl | assumption) rfl rfl (by first | rfl | assumption) ?_
                    refine kv_iload_n dX12_sheet_73 rfl ?_
                    refine kv_iload_n dX12_sheet_74 rfl ?_
                    refine kw_is dX12_sheet_75 hu (by first | rfl | assumption) (s) rfl (by omega) rfl ?_
                    refine kv_aload_n dX12_sheet_76 rfl ?_
                    refine kw_gR dX12_sheet_77 fX12_68 hu (by first | rfl | assumption) rfl rfl (by first | rfl | assumption) ?_
                    refine kv_iload_n dX12_sheet_80 rfl ?_
                    refine kv_iload_n dX12_sheet_81 rfl ?_
                    refine kv_if_ne dX12_sheet_82 89 (by decide) (fun h47 => ?_) (fun h47 => ?_)
                    · refine kv_iload_n dX12_sheet_89 rfl ?_
                      refine kw_is dX12_sheet_90 hu (by first | rfl | assumption) (s) rfl (by omega) rfl ?_
                      refine kv_iconst dX12_sheet_91 0 ki_0 ?_
                      refine kv_istore (ls2 := [_, _, _, _, _]) dX12_sheet_92 rfl rfl rfl rfl ?_
                      refine KV.loc (ls2 := [some (.ref 413), some (.int (nI s)), some (.int p1), some (.int p2), some (.int (nI (0)))]) ?_ (ksS rfl (ksS rfl (ksS rfl (ksS rfl (ksS rfl ksN)))))
                      refine kn_loop (P := fun i => ∀ v : KMem, kWd v → v.2.1 431 = kZr (a 8) (24 * s) i → v.2.1 429 = kSet (a 6) s p1 → v.2.1 430 = kSet (a 7) s (if p1 = 0 then 0 else p2) → (∀ b, b ≠ 429 → b ≠ 430 → b ≠ 431 → v.2.1 b = u.2.1 b) → KV w l mX12_sheet 2 0 0 94 [some (.ref 413), some (.int (nI s)), some (.int p1), some (.int p2), some (.int (nI i))] [] v (kOM u (ksheet a (nI s) p1 p2).1 (ksheet a (nI s) p1 p2).2)) (24) ?_ (fun i hi ih => ?_) _ hu (by rw [kZr_0, kv_si_row (by omega), kv_si_row (by omega)]; exact hm.2.2.2.2.2.2.2.2.1) (by rw [kv_si_row (by omega), kv_si_set, hm.2.2.2.2.2.2.1]) (by rw [kv_si_set, kv_si_row (by omega), hm.2.2.2.2.2.2.2.1]; first | rw [if_pos z] | rw [if_neg z]) (fun b h1 h2 h3 => by rw [kv_si_row h2, kv_si_row h1])
                      · intro v hv r8 r6 r7 hb
                        refine kv_iload dX12_sheet_94 rfl ?_
                        refine kv_bipush dX12_sheet_96 24 kb_24 ?_
                        refine kv_icmp_ge dX12_sheet_98 120 (by decide) (fun h48 => ?_) (fun h48 => ?_)
                        · refine kv_iconst dX12_sheet_120 1 ki_1 ?_
                          exact kv_iret dX12_sheet_121 rfl (by rw [hS]; exact ⟨rfl, hv, fun b hb2 => hb b (by omega) (by omega) (by omega), hm.sh kShG_j (fun b q1 q2 q3 q4 q5 => hb b q2 q3 q4) (r6.trans (kShG_6 a s p1 (if p1 = 0 then 0 else p2)).symm) (r7.trans (kShG_7 a s p1 (if p1 = 0 then 0 else p2)).symm) (r8.trans (kShG_8 a s p1 (if p1 = 0 then 0 else p2)).symm)⟩)
                        · exact absurd (Int32.le_refl (nI 24)) h48
                      · intro v hv r8 r6 r7 hb
                        refine kv_iload dX12_sheet_94 rfl ?_
                        refine kv_bipush dX12_sheet_96 24 kb_24 ?_
                        refine kv_icmp_ge dX12_sheet_98 120 (by decide) (fun h49 => ?_) (fun h49 => ?_)
                        · exact absurd h49 (kn_ge (n := 24) hi (by omega))
                        · refine kv_aload_n dX12_sheet_101 rfl ?_
                          refine kw_gR dX12_sheet_102 fX12_71 hv (by first | rfl | assumption) rfl rfl (by first | rfl | assumption) ?_
                          refine kv_bipush dX12_sheet_105 24 kb_24 ?_
                          refine kv_iload_n dX12_sheet_107 rfl ?_
                          refine kv_imul dX12_sheet_108 ?_
                          refine kv_iload dX12_sheet_109 rfl ?_
                          refine kv_iadd dX12_sheet_111 ?_
                          refine kv_iconst dX12_sheet_112 0 ki_0 ?_
                          refine kw_is dX12_sheet_113 hv (by first | rfl | assumption) (24 * s + i) (kn_add (kn_mul (show (24 : Int32) = nI 24 from rfl) rfl) rfl) (by omega) rfl ?_
                          refine kv_iinc (ls2 := [_, _, _, _, _]) dX12_sheet_114 (nI (i + 1)) rfl (kv_inc1 i) rfl rfl rfl rfl ?_
                          refine kv_goto dX12_sheet_117 94 (by decide) ?_
                          exact KV.loc (ih _ hv (by rw [kv_si_set, r8, kZr_step]) (by rw [kv_si_row (by omega)]; exact r6) (by rw [kv_si_row (by omega)]; exact r7) (fun b h1 h2 h3 => by rw [kv_si_row h3]; exact hb b h1 h2 h3)) (ksS rfl (ksS rfl (ksS rfl (ksS rfl (ksS rfl ksN)))))
                    · exact absurd h47 z
                  · rw [if_pos ⟨z, h46⟩] at hS
                    refine kv_aload_n dX12_sheet_62 rfl ?_
                    refine kv_ldc dX12_sheet_63 kX12_83 ?_
                    refine kw_Vi [_] mX12_finding dX12_sheet_65 lX12_84 wX12_finding kC12 hu rfl (by first | rfl | assumption) rfl rfl rfl (qX12_finding (by exact hu) 1 (by decide) (by decide) _ (by decide)) (by decide) ?_
                    exact kv_iret dX12_sheet_68 rfl (by rw [hS]; exact kOM.no hm hu rfl)
              · rw [if_pos ⟨z, Int32.not_le.mp h44⟩] at hS
                refine kv_aload_n dX12_sheet_44 rfl ?_
                refine kv_ldcw dX12_sheet_45 kX12_390 ?_
                refine kw_Vi [_] mX12_finding dX12_sheet_48 lX12_84 wX12_finding kC12 hu rfl (by first | rfl | assumption) rfl rfl rfl (qX12_finding (by exact hu) 3 (by decide) (by decide) _ (by decide)) (by decide) ?_
                exact kv_iret dX12_sheet_51 rfl (by rw [hS]; exact kOM.no hm hu rfl)
          · have hS : ksheet a p0 p1 p2 = (-1000001, kF a 1) := if_pos (Or.inr (by rintro (q | q | q | q) <;> contradiction))
            refine kv_aload_n dX12_sheet_29 rfl ?_
            refine kv_ldc dX12_sheet_30 kX12_83 ?_
            refine kw_Vi [_] mX12_finding dX12_sheet_32 lX12_84 wX12_finding kC12 hu rfl (by first | rfl | assumption) rfl rfl rfl (qX12_finding (by exact hu) 1 (by decide) (by decide) _ (by decide)) (by decide) ?_
            exact kv_iret dX12_sheet_35 rfl (by rw [hS]; exact kOM.no hm hu rfl)

theorem ksheet_ok {a : KA} (ho : kOk a) (p0 p1 p2 : Int32) : kOk (ksheet a p0 p1 p2).2 := by
  unfold ksheet
  split
  · exact ho.fnd 1
  · rename_i h1
    split
    · exact ho.fnd 3
    · rename_i h2
      split
      · exact ho.fnd 1
      · rename_i h3
        obtain ⟨s, hs, rfl⟩ := kOut.bd (n := 3) (by omega) (fun q => h1 (Or.inl q))
        have hb : kBt p1 := Classical.byContradiction (fun q => h1 (Or.inr q))
        rw [nI_clamp (by omega)]
        dsimp only
        refine ho.sh kShG_j (fun i hi => ?_)
        rw [kShG_6, kShG_7]
        by_cases q : i = s
        · subst q
          rw [kSet_s, kSet_s]
          refine ⟨?_, hb⟩
          by_cases z : p1 = 0
          · rw [if_pos z]; exact ⟨0, by omega, rfl⟩
          · rw [if_neg z]
            exact kOut.bd (n := 24) (by omega) (fun q => q.elim (fun y => h2 ⟨z, y⟩) (fun y => h3 ⟨z, y⟩))
        · rw [kSet_n q, kSet_n q]
          exact ho.2.2.2 i hi
set_option maxRecDepth 20000 in
set_option maxHeartbeats 4000000 in
theorem qX6_cut {w : KW} {l : Launch} {u : KMem} (hu : kWd u) (s : Nat) (hs : s < 4) {b : Int32} (hb : u.2.1 (401 + 3 * s) 1 = b) (h4 : b = 0 ∨ b = 8 ∨ b = 16 ∨ b = 32) (v : Int32) : KC w l mX6_cut 0 0 0 [.ref (401 + 3 * s), .int v] u (kq (some (.int (kCut b v))) u) := by
  refine KC.of (ls := [_, _]) rfl rfl (Nat.le_of_ble_eq_true rfl) ?_
  have ks := ks_sheet s (by omega)
  have ks1 := ks.1
  have ks2 := ks.2.1
  have ks4 := ks.2.2.2.1
  have ks6 := ks.2.2.2.2.2
  refine kv_aload_n dX6_cut_0 rfl ?_
  refine kw_gI dX6_cut_1 fX6_18 hu (by first | rfl | assumption) rfl rfl ?_
  rw [hb]
  rcases h4 with rfl | rfl | rfl | rfl
  · refine kv_lookup dX6_cut_4 38 (by decide +kernel) rfl (by decide +kernel) ?_
    refine kv_iload_n dX6_cut_38 rfl ?_
    exact kv_iret dX6_cut_39 rfl ⟨rfl, rfl⟩
  · refine kv_lookup dX6_cut_4 32 (by decide +kernel) rfl (by decide +kernel) ?_
    refine kv_iload_n dX6_cut_32 rfl ?_
    refine kv_i2b dX6_cut_33 ?_
    exact kv_iret dX6_cut_34 rfl ⟨rfl, rfl⟩
  · refine kv_lookup dX6_cut_4 35 (by decide +kernel) rfl (by decide +kernel) ?_
    refine kv_iload_n dX6_cut_35 rfl ?_
    refine kv_i2s dX6_cut_36 ?_
    exact kv_iret dX6_cut_37 rfl ⟨rfl, rfl⟩
  · refine kv_lookup dX6_cut_4 38 (by decide +kernel) rfl (by decide +kernel) ?_
    refine kv_iload_n dX6_cut_38 rfl ?_
    exact kv_iret dX6_cut_39 rfl ⟨rfl, rfl⟩

set_option maxRecDepth 20000 in
set_option maxHeartbeats 4000000 in
theorem qX11_put {w : KW} {l : Launch} {u : KMem} (hu : kWd u) {a : KA} (hx : kRX a u) (ho : kOk a) (p0 p1 p2 : Int32) : KC w l mX11_put 2 0 0 [.ref 0, .int p0, .int p1, .int p2] u (kOX u (kput a p0 p1 p2).1 (kput a p0 p1 p2).2) := by
  have hr := hx.1
  have hg := ho.1
  have hx20 := (hg.cnt (k := 2) rfl).2
  have hc30 := (hg.cnt (k := 0) rfl).2
  have ht10 := (hg.cnt (k := 3) rfl).2
  have he40 := (hg.cnt (k := 4) rfl).2
  have hs16 := hg.cnt (k := 1) rfl
  refine KC.of (ls := [_, _, _, _, _]) rfl rfl (Nat.le_of_ble_eq_true rfl) ?_
  refine kv_iload_n dX11_put_0 rfl ?_
  refine kv_iconst dX11_put_1 0 ki_0 ?_
  refine kv_iconst dX11_put_2 3 ki_3 ?_
  refine kw_Si [_, _, _] mX11_outside dX11_put_3 lX11_69 wX11_outside rfl rfl rfl (qX11_outside (by exact hu) _ _ _) (by decide) ?_
  refine kw_beq dX11_put_6 16 (by decide) (fun h1 => ?_) (fun h1 => ?_)
  · have n1 : ¬ kOut p0 0 3 := h1
    have hS : kput a p0 p1 p2 = _ := if_neg n1
    obtain ⟨s, hs3, rfl⟩ := kOut.bd (n := 3) (by omega) n1
    have hs : s < 4 := by omega
    rw [nI_clamp (by omega)] at hS
    have h7 := (ho.2.2.2 s hs).1.n (by omega)
    have ks := ks_sheet s (by omega)
    have ks1 := ks.1
    have ks2 := ks.2.1
    have ks4 := ks.2.2.2.1
    have ks6 := ks.2.2.2.2.2
    refine kv_aload_n dX11_put_16 rfl ?_
    refine kw_gR dX11_put_17 fX11_60 hu (by first | rfl | assumption) rfl rfl (by first | rfl | assumption) ?_
    refine kv_iload_n dX11_put_20 rfl ?_
    refine kw_al (t := 4) (n := 4) dX11_put_21 hu rfl rfl (s) rfl (by omega) rfl (by first | rfl | assumption) ?_
    refine kv_astore (ls2 := [_, _, _, _, _]) dX11_put_22 rfl rfl rfl rfl ?_
    refine kv_aload dX11_put_24 rfl ?_
    refine kw_gI dX11_put_26 fX11_359 hu (by first | rfl | assumption) rfl rfl ?_
    rw [(hx.2.2.2.2.2.2 s hs).1]
    refine kv_if_ne dX11_put_29 39 (by decide) (fun h2 => ?_) (fun h2 => ?_)
    · rw [if_neg h2] at hS
      refine kv_iload_n dX11_put_39 rfl ?_
      refine kv_iconst dX11_put_40 0 ki_0 ?_
      refine kv_aload dX11_put_41 rfl ?_
      refine kw_gI dX11_put_43 fX11_362 hu (by first | rfl | assumption) rfl rfl ?_
      rw [(hx.2.2.2.2.2.2 s hs).2.1]
      refine kv_iconst dX11_put_46 1 ki_1 ?_
      refine kv_isub dX11_put_47 ?_
      refine kw_Si [_, _, _] mX11_outside dX11_put_48 lX11_69 wX11_outside rfl rfl rfl (qX11_outside (by exact hu) _ _ _) (by decide) ?_
      refine kw_beq dX11_put_51 61 (by decide) (fun h3 => ?_) (fun h3 => ?_)
      · have n3 := h3
        rw [if_neg n3] at hS
        obtain ⟨j, hj, rfl⟩ := kn_in (n := (a 7 s).toNatClampNeg) (by omega) (by rw [← h7.1]; exact n3)
        rw [nI_clamp (by omega)] at hS
        refine kv_aload dX11_put_61 rfl ?_
        refine kw_gR dX11_put_63 fX11_390 hu (by first | rfl | assumption) rfl rfl (by first | rfl | assumption) ?_
        refine kv_iload_n dX11_put_66 rfl ?_
        refine kv_aload dX11_put_67 rfl ?_
        refine kv_iload_n dX11_put_69 rfl ?_
        refine kw_Vi [_] mX6_cut dX11_put_70 lX11_393 wX6_cut kC6 hu rfl (by first | rfl | assumption) rfl rfl rfl (qX6_cut (by exact hu) s hs (hx.2.2.2.2.2.2 s hs).1 (ho.2.2.2 s hs).2 _) (by decide) ?_
        refine kw_is dX11_put_73 hu (by first | rfl | assumption) (j) rfl (by omega) rfl ?_
        refine kv_iconst dX11_put_74 1 ki_1 ?_
        exact kv_iret dX11_put_75 rfl (by
            rw [hS]
            dsimp only
            refine ⟨rfl, hu, fun b hb => kv_si_row (by omega), hx.sh ho (fun j hj => kUp1_n (by omega)) (fun b k hb => kv_si_n (by omega)) (fun i hi => ?_)⟩
            have hi7 := hx.2.2.2.2.2.2 i hi
            refine ⟨?_, ?_, fun k hk => ?_⟩
            · rw [kv_si_n (by omega), kUp1_n (by omega)]; exact hi7.1
            · rw [kv_si_n (by omega), kUp1_n (by omega)]; exact hi7.2.1
            · rw [kUp1_s]
              by_cases q : i = s ∧ k = j
              · rw [q.1, q.2, kv_si_s, kSet_s]
              · rw [kv_si_n (by omega), kSet_n (by omega)]; exact hi7.2.2 k hk)
      · rw [if_pos h3] at hS
        refine kv_aload_n dX11_put_54 rfl ?_
        refine kv_ldc dX11_put_55 kX11_74 ?_
        refine kw_Vi [_] mX11_refuse dX11_put_57 lX11_75 wX11_refuse kC11 hu rfl (by first | rfl | assumption) rfl rfl rfl (qX11_refuse (by exact hu) 1 (by decide) (by decide) _ (by decide)) (by decide) ?_
        exact kv_iret dX11_put_60 rfl (by rw [hS]; exact kOX.no hx ho hu (by decide) rfl)
    · rw [if_pos h2] at hS
      refine kv_aload_n dX11_put_32 rfl ?_
      refine kv_ldc dX11_put_33 kX11_248 ?_
      refine kw_Vi [_] mX11_refuse dX11_put_35 lX11_75 wX11_refuse kC11 hu rfl (by first | rfl | assumption) rfl rfl rfl (qX11_refuse (by exact hu) 2 (by decide) (by decide) _ (by decide)) (by decide) ?_
      exact kv_iret dX11_put_38 rfl (by rw [hS]; exact kOX.no hx ho hu (by decide) rfl)
  · have hS : kput a p0 p1 p2 = (-1000001, kF a 1) := if_pos h1
    refine kv_aload_n dX11_put_9 rfl ?_
    refine kv_ldc dX11_put_10 kX11_74 ?_
    refine kw_Vi [_] mX11_refuse dX11_put_12 lX11_75 wX11_refuse kC11 hu rfl (by first | rfl | assumption) rfl rfl rfl (qX11_refuse (by exact hu) 1 (by decide) (by decide) _ (by decide)) (by decide) ?_
    exact kv_iret dX11_put_15 rfl (by rw [hS]; exact kOX.no hx ho hu (by decide) rfl)

set_option maxRecDepth 20000 in
set_option maxHeartbeats 4000000 in
theorem qX12_put {w : KW} {l : Launch} {u : KMem} (hu : kWd u) {a : KA} (hm : kRM a u) (ho : kOk a) (p0 p1 p2 : Int32) : KC w l mX12_put 2 0 0 [.ref 413, .int p0, .int p1, .int p2] u (kOM u (kput a p0 p1 p2).1 (kput a p0 p1 p2).2) := by
  have eg := hm.1
  have hg := ho.1
  have hx20 := (hg.cnt (k := 2) rfl).2
  have hc30 := (hg.cnt (k := 0) rfl).2
  have ht10 := (hg.cnt (k := 3) rfl).2
  have he40 := (hg.cnt (k := 4) rfl).2
  have hs16 := hg.cnt (k := 1) rfl
  refine KC.of (ls := [_, _, _, _]) rfl rfl (Nat.le_of_ble_eq_true rfl) ?_
  refine kv_iload_n dX12_put_0 rfl ?_
  refine kw_Si [_] mX12_isSheet dX12_put_1 lX12_359 wX12_isSheet rfl rfl rfl (qX12_isSheet (by exact hu) _) (by decide) ?_
  refine kw_bne dX12_put_4 14 (by decide) (fun h1 => ?_) (fun h1 => ?_)
  · have n1 : ¬ kOut p0 0 3 := kIn_y h1
    have hS : kput a p0 p1 p2 = _ := if_neg n1
    obtain ⟨s, hs3, rfl⟩ := kOut.bd (n := 3) (by omega) n1
    have hs : s < 4 := by omega
    rw [nI_clamp (by omega)] at hS
    have h7 := (ho.2.2.2 s hs).1.n (by omega)
    refine kv_aload_n dX12_put_14 rfl ?_
    refine kw_gR dX12_put_15 fX12_65 hu (by first | rfl | assumption) rfl rfl (by first | rfl | assumption) ?_
    refine kv_iload_n dX12_put_18 rfl ?_
    refine kw_il dX12_put_19 hu (by first | rfl | assumption) (s) rfl (by omega) rfl ?_
    rw [hm.2.2.2.2.2.2.1]
    refine kv_if_ne dX12_put_20 31 (by decide) (fun h2 => ?_) (fun h2 => ?_)
    · rw [if_neg h2] at hS
      refine kv_iload_n dX12_put_31 rfl ?_
      refine kv_iconst dX12_put_32 0 ki_0 ?_
      refine kv_aload_n dX12_put_33 rfl ?_
      refine kw_gR dX12_put_34 fX12_68 hu (by first | rfl | assumption) rfl rfl (by first | rfl | assumption) ?_
      refine kv_iload_n dX12_put_37 rfl ?_
      refine kw_il dX12_put_38 hu (by first | rfl | assumption) (s) rfl (by omega) rfl ?_
      rw [hm.2.2.2.2.2.2.2.1]
      refine kv_iconst dX12_put_39 1 ki_1 ?_
      refine kv_isub dX12_put_40 ?_
      refine kw_Si [_, _, _] mX12_within dX12_put_41 lX12_78 wX12_within rfl rfl rfl (qX12_within (by exact hu) _ _ _) (by decide) ?_
      refine kw_bne dX12_put_44 54 (by decide) (fun h3 => ?_) (fun h3 => ?_)
      · have n3 := kIn_y h3
        rw [if_neg n3] at hS
        obtain ⟨j, hj, rfl⟩ := kn_in (n := (a 7 s).toNatClampNeg) (by omega) (by rw [← h7.1]; exact n3)
        rw [nI_clamp (by omega)] at hS
        refine kv_aload_n dX12_put_54 rfl ?_
        refine kw_gR dX12_put_55 fX12_71 hu (by first | rfl | assumption) rfl rfl (by first | rfl | assumption) ?_
        refine kv_bipush dX12_put_58 24 kb_24 ?_
        refine kv_iload_n dX12_put_60 rfl ?_
        refine kv_imul dX12_put_61 ?_
        refine kv_iload_n dX12_put_62 rfl ?_
        refine kv_iadd dX12_put_63 ?_
        refine kv_aload_n dX12_put_64 rfl ?_
        refine kw_gR dX12_put_65 fX12_65 hu (by first | rfl | assumption) rfl rfl (by first | rfl | assumption) ?_
        refine kv_iload_n dX12_put_68 rfl ?_
        refine kw_il dX12_put_69 hu (by first | rfl | assumption) (s) rfl (by omega) rfl ?_
        rw [hm.2.2.2.2.2.2.1]
        refine kv_bipush dX12_put_70 8 kb_8 ?_
        refine kv_icmp_ne dX12_put_72 80 (by decide) (fun h4 => ?_) (fun h4 => ?_)
        · have y8 := h4
          refine kv_aload_n dX12_put_80 rfl ?_
          refine kw_gR dX12_put_81 fX12_65 hu (by first | rfl | assumption) rfl rfl (by first | rfl | assumption) ?_
          refine kv_iload_n dX12_put_84 rfl ?_
          refine kw_il dX12_put_85 hu (by first | rfl | assumption) (s) rfl (by omega) rfl ?_
          rw [hm.2.2.2.2.2.2.1]
          refine kv_bipush dX12_put_86 16 kb_16 ?_
          refine kv_icmp_ne dX12_put_88 96 (by decide) (fun h5 => ?_) (fun h5 => ?_)
          · have hc : kCut (a 6 s) p2 = _ := (if_neg y8).trans (if_neg h5)
            refine kv_iload_n dX12_put_96 rfl ?_
            refine kw_is dX12_put_97 hu (by first | rfl | assumption) (24 * s + j) (kn_add (kn_mul (show (24 : Int32) = nI 24 from rfl) rfl) rfl) (by omega) rfl ?_
            refine kv_iconst dX12_put_98 1 ki_1 ?_
            exact kv_iret dX12_put_99 rfl (by rw [hS, hc]; dsimp only; exact ⟨rfl, hu, fun b hb => kv_si_row (by omega), hm.sh (fun j hj => kUp1_n (by omega)) (fun b q1 q2 q3 q4 q5 => kv_si_row (by omega)) (by rw [kv_si_row (by omega), kUp1_n (by omega)]; exact hm.2.2.2.2.2.2.1) (by rw [kv_si_row (by omega), kUp1_n (by omega)]; exact hm.2.2.2.2.2.2.2.1) (by rw [kv_si_set, kUp1_s, hm.2.2.2.2.2.2.2.2.1])⟩)
          · have hc : kCut (a 6 s) p2 = _ := (if_neg y8).trans (if_pos h5)
            refine kv_iload_n dX12_put_91 rfl ?_
            refine kv_i2s dX12_put_92 ?_
            refine kv_goto dX12_put_93 97 (by decide) ?_
            refine kw_is dX12_put_97 hu (by first | rfl | assumption) (24 * s + j) (kn_add (kn_mul (show (24 : Int32) = nI 24 from rfl) rfl) rfl) (by omega) rfl ?_
            refine kv_iconst dX12_put_98 1 ki_1 ?_
            exact kv_iret dX12_put_99 rfl (by rw [hS, hc]; dsimp only; exact ⟨rfl, hu, fun b hb => kv_si_row (by omega), hm.sh (fun j hj => kUp1_n (by omega)) (fun b q1 q2 q3 q4 q5 => kv_si_row (by omega)) (by rw [kv_si_row (by omega), kUp1_n (by omega)]; exact hm.2.2.2.2.2.2.1) (by rw [kv_si_row (by omega), kUp1_n (by omega)]; exact hm.2.2.2.2.2.2.2.1) (by rw [kv_si_set, kUp1_s, hm.2.2.2.2.2.2.2.2.1])⟩)
        · have hc : kCut (a 6 s) p2 = _ := if_pos h4
          refine kv_iload_n dX12_put_75 rfl ?_
          refine kv_i2b dX12_put_76 ?_
          refine kv_goto dX12_put_77 97 (by decide) ?_
          refine kw_is dX12_put_97 hu (by first | rfl | assumption) (24 * s + j) (kn_add (kn_mul (show (24 : Int32) = nI 24 from rfl) rfl) rfl) (by omega) rfl ?_
          refine kv_iconst dX12_put_98 1 ki_1 ?_
          exact kv_iret dX12_put_99 rfl (by rw [hS, hc]; dsimp only; exact ⟨rfl, hu, fun b hb => kv_si_row (by omega), hm.sh (fun j hj => kUp1_n (by omega)) (fun b q1 q2 q3 q4 q5 => kv_si_row (by omega)) (by rw [kv_si_row (by omega), kUp1_n (by omega)]; exact hm.2.2.2.2.2.2.1) (by rw [kv_si_row (by omega), kUp1_n (by omega)]; exact hm.2.2.2.2.2.2.2.1) (by rw [kv_si_set, kUp1_s, hm.2.2.2.2.2.2.2.2.1])⟩)
      · rw [if_pos (kIn_n h3)] at hS
        refine kv_aload_n dX12_put_47 rfl ?_
        refine kv_ldc dX12_put_48 kX12_83 ?_
        refine kw_Vi [_] mX12_finding dX12_put_50 lX12_84 wX12_finding kC12 hu rfl (by first | rfl | assumption) rfl rfl rfl (qX12_finding (by exact hu) 1 (by decide) (by decide) _ (by decide)) (by decide) ?_
        exact kv_iret dX12_put_53 rfl (by rw [hS]; exact kOM.no hm hu rfl)
    · rw [if_pos h2] at hS
      refine kv_aload_n dX12_put_23 rfl ?_
      refine kv_ldcw dX12_put_24 kX12_287 ?_
      refine kw_Vi [_] mX12_finding dX12_put_27 lX12_84 wX12_finding kC12 hu rfl (by first | rfl | assumption) rfl rfl rfl (qX12_finding (by exact hu) 2 (by decide) (by decide) _ (by decide)) (by decide) ?_
      exact kv_iret dX12_put_30 rfl (by rw [hS]; exact kOM.no hm hu rfl)
  · have hS : kput a p0 p1 p2 = (-1000001, kF a 1) := if_pos (kIn_n h1)
    refine kv_aload_n dX12_put_7 rfl ?_
    refine kv_ldc dX12_put_8 kX12_83 ?_
    refine kw_Vi [_] mX12_finding dX12_put_10 lX12_84 wX12_finding kC12 hu rfl (by first | rfl | assumption) rfl rfl rfl (qX12_finding (by exact hu) 1 (by decide) (by decide) _ (by decide)) (by decide) ?_
    exact kv_iret dX12_put_13 rfl (by rw [hS]; exact kOM.no hm hu rfl)

theorem kput_ok {a : KA} (ho : kOk a) (p0 p1 p2 : Int32) : kOk (kput a p0 p1 p2).2 := by
  unfold kput
  split
  · exact ho.fnd 1
  · split
    · exact ho.fnd 2
    · split
      · exact ho.fnd 1
      · dsimp only; exact ho.sh (fun j hj => kUp1_n (by omega)) (fun i hi => by rw [kUp1_n (by omega), kUp1_n (by omega)]; exact ho.2.2.2 i hi)
