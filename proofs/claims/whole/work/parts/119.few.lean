/-! payments -/
def kSF (a k : Nat) : Prop := a = 391 ∨ (a = 392 ∧ ¬ k = 0) ∨ (a = 393 ∧ ¬ k = 0)
def kSG (a k : Nat) : Prop := (a = 422 ∧ ¬ k = 0) ∨ (a = 423 ∧ ¬ k = 0)
theorem kSG_now (k : Nat) : ¬ kSG 414 k := by unfold kSG; omega
def kPv (p : Nat → Int64) : Nat := (kNz p 11).length - kGL (kNz p 11)
noncomputable def kpayments (a : KA) (p0 : Int32) : Int32 × KA := if kOut p0 0 33 then (-1000001, kF a 1) else (nI (kPv (kPosA (a 0) p0 (kN (a 0) 4))), a)
theorem kNz_get {p : Nat → Int64} {L : List Int64} {x : Int64} {q : Nat → Int64} (h : ∀ j, j < L.length → L[j]? = some (q j)) (hx : q L.length = x) : ∀ j, j < (L ++ [x]).length → (L ++ [x])[j]? = some (q j) := by
  intro j hj
  rw [List.length_append] at hj
  have hj : j < L.length + 1 := hj
  by_cases z : j < L.length
  · rw [List.getElem?_append_left z]; exact h j z
  · rw [show j = L.length by omega, List.getElem?_append_right (Nat.le_refl _), Nat.sub_self, hx]; rfl
set_option maxRecDepth 20000 in
set_option maxHeartbeats 4000000 in
theorem qJ6_numberOfTrailingZeros_0f7a4 {w : KW} {l : Launch} {u : KMem} (hu : kWd u) {s l_ : Nat} (hl : l_ < 11) (hy : (nI s ^^^ (-1)) &&& (nI s - 1) = nI (2 ^ l_ - 1)) : KC w l mJ6_numberOfTrailingZeros_0f7a4 0 0 0 [.int (nI s)] u (kq (some (.int (nI l_))) u) := by
  refine KC.of (ls := [_, _]) rfl rfl (Nat.le_of_ble_eq_true rfl) ?_
  refine kv_iload_n dJ6_numberOfTrailingZeros_0f7a4_0 rfl ?_
  refine kv_iconst dJ6_numberOfTrailingZeros_0f7a4_1 (-1) ki_m1 ?_
  refine kv_ixor dJ6_numberOfTrailingZeros_0f7a4_2 ?_
  refine kv_iload_n dJ6_numberOfTrailingZeros_0f7a4_3 rfl ?_
  refine kv_iconst dJ6_numberOfTrailingZeros_0f7a4_4 1 ki_1 ?_
  refine kv_isub dJ6_numberOfTrailingZeros_0f7a4_5 ?_
  refine kv_iand dJ6_numberOfTrailingZeros_0f7a4_6 ?_
  rw [hy]
  rcases (show l_ = 0 ∨ l_ = 1 ∨ l_ = 2 ∨ l_ = 3 ∨ l_ = 4 ∨ l_ = 5 ∨ l_ = 6 ∨ l_ = 7 ∨ l_ = 8 ∨ l_ = 9 ∨ l_ = 10 by omega) with rfl | rfl | rfl | rfl | rfl | rfl | rfl | rfl | rfl | rfl | rfl
  · rw [show nI (2 ^ 0 - 1) = (0 : Int32) from rfl]
    refine kv_istore_n (ls2 := [_, _]) dJ6_numberOfTrailingZeros_0f7a4_7 rfl rfl rfl rfl ?_
    refine kv_iload_n dJ6_numberOfTrailingZeros_0f7a4_8 rfl ?_
    refine kv_if_gt dJ6_numberOfTrailingZeros_0f7a4_9 17 (by decide) (fun h1 => ?_) (fun h1 => ?_)
    · exact absurd h1 (by decide)
    · refine kv_iload_n dJ6_numberOfTrailingZeros_0f7a4_12 rfl ?_
      refine kv_bipush dJ6_numberOfTrailingZeros_0f7a4_13 32 kb_32 ?_
      refine kv_iand dJ6_numberOfTrailingZeros_0f7a4_15 ?_
      rw [show ((0 : Int32) &&& 32) = 0 from rfl]
      exact kv_iret dJ6_numberOfTrailingZeros_0f7a4_16 rfl ⟨rfl, rfl⟩
  · rw [show nI (2 ^ 1 - 1) = (1 : Int32) from rfl]
    refine kv_istore_n (ls2 := [_, _]) dJ6_numberOfTrailingZeros_0f7a4_7 rfl rfl rfl rfl ?_
    refine kv_iload_n dJ6_numberOfTrailingZeros_0f7a4_8 rfl ?_
    refine kv_if_gt dJ6_numberOfTrailingZeros_0f7a4_9 17 (by decide) (fun h2 => ?_) (fun h2 => ?_)
    · refine kv_iconst dJ6_numberOfTrailingZeros_0f7a4_17 1 ki_1 ?_
      refine kv_istore_n (ls2 := [_, _]) dJ6_numberOfTrailingZeros_0f7a4_18 rfl rfl rfl rfl ?_
      refine kv_iload_n dJ6_numberOfTrailingZeros_0f7a4_19 rfl ?_
      refine kv_ldcw dJ6_numberOfTrailingZeros_0f7a4_20 kJ6_264 ?_
      refine kv_icmp_le dJ6_numberOfTrailingZeros_0f7a4_23 34 (by decide) (fun h3 => ?_) (fun h3 => ?_)
      · refine kv_iload_n dJ6_numberOfTrailingZeros_0f7a4_34 rfl ?_
        refine kv_sipush dJ6_numberOfTrailingZeros_0f7a4_35 256 kz_256 ?_
        refine kv_icmp_le dJ6_numberOfTrailingZeros_0f7a4_38 49 (by decide) (fun h4 => ?_) (fun h4 => ?_)
        · refine kv_iload_n dJ6_numberOfTrailingZeros_0f7a4_49 rfl ?_
          refine kv_bipush dJ6_numberOfTrailingZeros_0f7a4_50 16 kb_16 ?_
          refine kv_icmp_le dJ6_numberOfTrailingZeros_0f7a4_52 62 (by decide) (fun h5 => ?_) (fun h5 => ?_)
          · refine kv_iload_n dJ6_numberOfTrailingZeros_0f7a4_62 rfl ?_
            refine kv_iconst dJ6_numberOfTrailingZeros_0f7a4_63 4 ki_4 ?_
            refine kv_icmp_le dJ6_numberOfTrailingZeros_0f7a4_64 74 (by decide) (fun h6 => ?_) (fun h6 => ?_)
            · refine kv_iload_n dJ6_numberOfTrailingZeros_0f7a4_74 rfl ?_
              refine kv_iload_n dJ6_numberOfTrailingZeros_0f7a4_75 rfl ?_
              refine kv_iconst dJ6_numberOfTrailingZeros_0f7a4_76 1 ki_1 ?_
              refine kv_iushr dJ6_numberOfTrailingZeros_0f7a4_77 ?_
              rw [show ((1 : Int32).toUInt32 >>> ((1 : Int32).toUInt32 &&& Int32.toUInt32 31)).toInt32 = 0 from rfl]
              refine kv_iadd dJ6_numberOfTrailingZeros_0f7a4_78 ?_
              rw [show ((1 : Int32) + 0) = 1 from rfl]
              exact kv_iret dJ6_numberOfTrailingZeros_0f7a4_79 rfl ⟨rfl, rfl⟩
            · exact absurd h6 (by decide)
          · exact absurd h5 (by decide)
        · exact absurd h4 (by decide)
      · exact absurd h3 (by decide)
    · exact absurd h2 (by decide)
  · rw [show nI (2 ^ 2 - 1) = (3 : Int32) from rfl]
    refine kv_istore_n (ls2 := [_, _]) dJ6_numberOfTrailingZeros_0f7a4_7 rfl rfl rfl rfl ?_
    refine kv_iload_n dJ6_numberOfTrailingZeros_0f7a4_8 rfl ?_
    refine kv_if_gt dJ6_numberOfTrailingZeros_0f7a4_9 17 (by decide) (fun h7 => ?_) (fun h7 => ?_)
    · refine kv_iconst dJ6_numberOfTrailingZeros_0f7a4_17 1 ki_1 ?_
      refine kv_istore_n (ls2 := [_, _]) dJ6_numberOfTrailingZeros_0f7a4_18 rfl rfl rfl rfl ?_
      refine kv_iload_n dJ6_numberOfTrailingZeros_0f7a4_19 rfl ?_
      refine kv_ldcw dJ6_numberOfTrailingZeros_0f7a4_20 kJ6_264 ?_
      refine kv_icmp_le dJ6_numberOfTrailingZeros_0f7a4_23 34 (by decide) (fun h8 => ?_) (fun h8 => ?_)
      · refine kv_iload_n dJ6_numberOfTrailingZeros_0f7a4_34 rfl ?_
        refine kv_sipush dJ6_numberOfTrailingZeros_0f7a4_35 256 kz_256 ?_
        refine kv_icmp_le dJ6_numberOfTrailingZeros_0f7a4_38 49 (by decide) (fun h9 => ?_) (fun h9 => ?_)
        · refine kv_iload_n dJ6_numberOfTrailingZeros_0f7a4_49 rfl ?_
          refine kv_bipush dJ6_numberOfTrailingZeros_0f7a4_50 16 kb_16 ?_
          refine kv_icmp_le dJ6_numberOfTrailingZeros_0f7a4_52 62 (by decide) (fun h10 => ?_) (fun h10 => ?_)
          · refine kv_iload_n dJ6_numberOfTrailingZeros_0f7a4_62 rfl ?_
            refine kv_iconst dJ6_numberOfTrailingZeros_0f7a4_63 4 ki_4 ?_
            refine kv_icmp_le dJ6_numberOfTrailingZeros_0f7a4_64 74 (by decide) (fun h11 => ?_) (fun h11 => ?_)
            · refine kv_iload_n dJ6_numberOfTrailingZeros_0f7a4_74 rfl ?_
              refine kv_iload_n dJ6_numberOfTrailingZeros_0f7a4_75 rfl ?_
              refine kv_iconst dJ6_numberOfTrailingZeros_0f7a4_76 1 ki_1 ?_
              refine kv_iushr dJ6_numberOfTrailingZeros_0f7a4_77 ?_
              rw [show ((3 : Int32).toUInt32 >>> ((1 : Int32).toUInt32 &&& Int32.toUInt32 31)).toInt32 = 1 from rfl]
              refine kv_iadd dJ6_numberOfTrailingZeros_0f7a4_78 ?_
              rw [show ((1 : Int32) + 1) = 2 from rfl]
              exact kv_iret dJ6_numberOfTrailingZeros_0f7a4_79 rfl ⟨rfl, rfl⟩
            · exact absurd h11 (by decide)
          · exact absurd h10 (by decide)
        · exact absurd h9 (by decide)
      · exact absurd h8 (by decide)
    · exact absurd h7 (by decide)
  · rw [show nI (2 ^ 3 - 1) = (7 : Int32) from rfl]
    refine kv_istore_n (ls2 := [_, _]) dJ6_numberOfTrailingZeros_0f7a4_7 rfl rfl rfl rfl ?_
    refine kv_iload_n dJ6_numberOfTrailingZeros_0f7a4_8 rfl ?_
    refine kv_if_gt dJ6_numberOfTrailingZeros_0f7a4_9 17 (by decide) (fun h12 => ?_) (fun h12 => ?_)
    · refine kv_iconst dJ6_numberOfTrailingZeros_0f7a4_17 1 ki_1 ?_
      refine kv_istore_n (ls2 := [_, _]) dJ6_numberOfTrailingZeros_0f7a4_18 rfl rfl rfl rfl ?_
      refine kv_iload_n dJ6_numberOfTrailingZeros_0f7a4_19 rfl ?_
      refine kv_ldcw dJ6_numberOfTrailingZeros_0f7a4_20 kJ6_264 ?_
      refine kv_icmp_le dJ6_numberOfTrailingZeros_0f7a4_23 34 (by decide) (fun h13 => ?_) (fun h13 => ?_)
      · refine kv_iload_n dJ6_numberOfTrailingZeros_0f7a4_34 rfl ?_
        refine kv_sipush dJ6_numberOfTrailingZeros_0f7a4_35 256 kz_256 ?_
        refine kv_icmp_le dJ6_numberOfTrailingZeros_0f7a4_38 49 (by decide) (fun h14 => ?_) (fun h14 => ?_)
        · refine kv_iload_n dJ6_numberOfTrailingZeros_0f7a4_49 rfl ?_
          refine kv_bipush dJ6_numberOfTrailingZeros_0f7a4_50 16 kb_16 ?_
          refine kv_icmp_le dJ6_numberOfTrailingZeros_0f7a4_52 62 (by decide) (fun h15 => ?_) (fun h15 => ?_)
          · refine kv_iload_n dJ6_numberOfTrailingZeros_0f7a4_62 rfl ?_
            refine kv_iconst dJ6_numberOfTrailingZeros_0f7a4_63 4 ki_4 ?_
            refine kv_icmp_le dJ6_numberOfTrailingZeros_0f7a4_64 74 (by decide) (fun h16 => ?_) (fun h16 => ?_)
            · exact absurd h16 (by decide)
            · refine kv_iinc (ls2 := [_, _]) dJ6_numberOfTrailingZeros_0f7a4_67 (3 : Int32) rfl rfl rfl rfl rfl rfl ?_
              refine kv_iload_n dJ6_numberOfTrailingZeros_0f7a4_70 rfl ?_
              refine kv_iconst dJ6_numberOfTrailingZeros_0f7a4_71 2 ki_2 ?_
              refine kv_iushr dJ6_numberOfTrailingZeros_0f7a4_72 ?_
              rw [show ((7 : Int32).toUInt32 >>> ((2 : Int32).toUInt32 &&& Int32.toUInt32 31)).toInt32 = 1 from rfl]
              refine kv_istore_n (ls2 := [_, _]) dJ6_numberOfTrailingZeros_0f7a4_73 rfl rfl rfl rfl ?_
              refine kv_iload_n dJ6_numberOfTrailingZeros_0f7a4_74 rfl ?_
              refine kv_iload_n dJ6_numberOfTrailingZeros_0f7a4_75 rfl ?_
              refine kv_iconst dJ6_numberOfTrailingZeros_0f7a4_76 1 ki_1 ?_
              refine kv_iushr dJ6_numberOfTrailingZeros_0f7a4_77 ?_
              rw [show ((1 : Int32).toUInt32 >>> ((1 : Int32).toUInt32 &&& Int32.toUInt32 31)).toInt32 = 0 from rfl]
              refine kv_iadd dJ6_numberOfTrailingZeros_0f7a4_78 ?_
              rw [show ((3 : Int32) + 0) = 3 from rfl]
              exact kv_iret dJ6_numberOfTrailingZeros_0f7a4_79 rfl ⟨rfl, rfl⟩
          · exact absurd h15 (by decide)
        · exact absurd h14 (by decide)
      · exact absurd h13 (by decide)
    · exact absurd h12 (by decide)
  · rw [show nI (2 ^ 4 - 1) = (15 : Int32) from rfl]
    refine kv_istore_n (ls2 := [_, _]) dJ6_numberOfTrailingZeros_0f7a4_7 rfl rfl rfl rfl ?_
    refine kv_iload_n dJ6_numberOfTrailingZeros_0f7a4_8 rfl ?_
    refine kv_if_gt dJ6_numberOfTrailingZeros_0f7a4_9 17 (by decide) (fun h17 => ?_) (fun h17 => ?_)
    · refine kv_iconst dJ6_numberOfTrailingZeros_0f7a4_17 1 ki_1 ?_
      refine kv_istore_n (ls2 := [_, _]) dJ6_numberOfTrailingZeros_0f7a4_18 rfl rfl rfl rfl ?_
      refine kv_iload_n dJ6_numberOfTrailingZeros_0f7a4_19 rfl ?_
      refine kv_ldcw dJ6_numberOfTrailingZeros_0f7a4_20 kJ6_264 ?_
      refine kv_icmp_le dJ6_numberOfTrailingZeros_0f7a4_23 34 (by decide) (fun h18 => ?_) (fun h18 => ?_)
      · refine kv_iload_n dJ6_numberOfTrailingZeros_0f7a4_34 rfl ?_
        refine kv_sipush dJ6_numberOfTrailingZeros_0f7a4_35 256 kz_256 ?_
        refine kv_icmp_le dJ6_numberOfTrailingZeros_0f7a4_38 49 (by decide) (fun h19 => ?_) (fun h19 => ?_)
        · refine kv_iload_n dJ6_numberOfTrailingZeros_0f7a4_49 rfl ?_
          refine kv_bipush dJ6_numberOfTrailingZeros_0f7a4_50 16 kb_16 ?_
          refine kv_icmp_le dJ6_numberOfTrailingZeros_0f7a4_52 62 (by decide) (fun h20 => ?_) (fun h20 => ?_)
          · refine kv_iload_n dJ6_numberOfTrailingZeros_0f7a4_62 rfl ?_
            refine kv_iconst dJ6_numberOfTrailingZeros_0f7a4_63 4 ki_4 ?_
            refine kv_icmp_le dJ6_numberOfTrailingZeros_0f7a4_64 74 (by decide) (fun h21 => ?_) (fun h21 => ?_)
            · exact absurd h21 (by decide)
            · refine kv_iinc (ls2 := [_, _]) dJ6_numberOfTrailingZeros_0f7a4_67 (3 : Int32) rfl rfl rfl rfl rfl rfl ?_
              refine kv_iload_n dJ6_numberOfTrailingZeros_0f7a4_70 rfl ?_
              refine kv_iconst dJ6_numberOfTrailingZeros_0f7a4_71 2 ki_2 ?_
              refine kv_iushr dJ6_numberOfTrailingZeros_0f7a4_72 ?_
              rw [show ((15 : Int32).toUInt32 >>> ((2 : Int32).toUInt32 &&& Int32.toUInt32 31)).toInt32 = 3 from rfl]
              refine kv_istore_n (ls2 := [_, _]) dJ6_numberOfTrailingZeros_0f7a4_73 rfl rfl rfl rfl ?_
              refine kv_iload_n dJ6_numberOfTrailingZeros_0f7a4_74 rfl ?_
              refine kv_iload_n dJ6_numberOfTrailingZeros_0f7a4_75 rfl ?_
              refine kv_iconst dJ6_numberOfTrailingZeros_0f7a4_76 1 ki_1 ?_
              refine kv_iushr dJ6_numberOfTrailingZeros_0f7a4_77 ?_
              rw [show ((3 : Int32).toUInt32 >>> ((1 : Int32).toUInt32 &&& Int32.toUInt32 31)).toInt32 = 1 from rfl]
              refine kv_iadd dJ6_numberOfTrailingZeros_0f7a4_78 ?_
              rw [show ((3 : Int32) + 1) = 4 from rfl]
              exact kv_iret dJ6_numberOfTrailingZeros_0f7a4_79 rfl ⟨rfl, rfl⟩
          · exact absurd h20 (by decide)
        · exact absurd h19 (by decide)
      · exact absurd h18 (by decide)
    · exact absurd h17 (by decide)
  · rw [show nI (2 ^ 5 - 1) = (31 : Int32) from rfl]
    refine kv_istore_n (ls2 := [_, _]) dJ6_numberOfTrailingZeros_0f7a4_7 rfl rfl rfl rfl ?_
    refine kv_iload_n dJ6_numberOfTrailingZeros_0f7a4_8 rfl ?_
    refine kv_if_gt dJ6_numberOfTrailingZeros_0f7a4_9 17 (by decide) (fun h22 => ?_) (fun h22 => ?_)
    · refine kv_iconst dJ6_numberOfTrailingZeros_0f7a4_17 1 ki_1 ?_
      refine kv_istore_n (ls2 := [_, _]) dJ6_numberOfTrailingZeros_0f7a4_18 rfl rfl rfl rfl ?_
      refine kv_iload_n dJ6_numberOfTrailingZeros_0f7a4_19 rfl ?_
      refine kv_ldcw dJ6_numberOfTrailingZeros_0f7a4_20 kJ6_264 ?_
      refine kv_icmp_le dJ6_numberOfTrailingZeros_0f7a4_23 34 (by decide) (fun h23 => ?_) (fun h23 => ?_)
      · refine kv_iload_n dJ6_numberOfTrailingZeros_0f7a4_34 rfl ?_
        refine kv_sipush dJ6_numberOfTrailingZeros_0f7a4_35 256 kz_256 ?_
        refine kv_icmp_le dJ6_numberOfTrailingZeros_0f7a4_38 49 (by decide) (fun h24 => ?_) (fun h24 => ?_)
        · refine kv_iload_n dJ6_numberOfTrailingZeros_0f7a4_49 rfl ?_
          refine kv_bipush dJ6_numberOfTrailingZeros_0f7a4_50 16 kb_16 ?_
          refine kv_icmp_le dJ6_numberOfTrailingZeros_0f7a4_52 62 (by decide) (fun h25 => ?_) (fun h25 => ?_)
          · exact absurd h25 (by decide)
          · refine kv_iinc (ls2 := [_, _]) dJ6_numberOfTrailingZeros_0f7a4_55 (5 : Int32) rfl rfl rfl rfl rfl rfl ?_
            refine kv_iload_n dJ6_numberOfTrailingZeros_0f7a4_58 rfl ?_
            refine kv_iconst dJ6_numberOfTrailingZeros_0f7a4_59 4 ki_4 ?_
            refine kv_iushr dJ6_numberOfTrailingZeros_0f7a4_60 ?_
            rw [show ((31 : Int32).toUInt32 >>> ((4 : Int32).toUInt32 &&& Int32.toUInt32 31)).toInt32 = 1 from rfl]
            refine kv_istore_n (ls2 := [_, _]) dJ6_numberOfTrailingZeros_0f7a4_61 rfl rfl rfl rfl ?_
            refine kv_iload_n dJ6_numberOfTrailingZeros_0f7a4_62 rfl ?_
            refine kv_iconst dJ6_numberOfTrailingZeros_0f7a4_63 4 ki_4 ?_
            refine kv_icmp_le dJ6_numberOfTrailingZeros_0f7a4_64 74 (by decide) (fun h26 => ?_) (fun h26 => ?_)
            · refine kv_iload_n dJ6_numberOfTrailingZeros_0f7a4_74 rfl ?_
              refine kv_iload_n dJ6_numberOfTrailingZeros_0f7a4_75 rfl ?_
              refine kv_iconst dJ6_numberOfTrailingZeros_0f7a4_76 1 ki_1 ?_
              refine kv_iushr dJ6_numberOfTrailingZeros_0f7a4_77 ?_
              rw [show ((1 : Int32).toUInt32 >>> ((1 : Int32).toUInt32 &&& Int32.toUInt32 31)).toInt32 = 0 from rfl]
              refine kv_iadd dJ6_numberOfTrailingZeros_0f7a4_78 ?_
              rw [show ((5 : Int32) + 0) = 5 from rfl]
              exact kv_iret dJ6_numberOfTrailingZeros_0f7a4_79 rfl ⟨rfl, rfl⟩
            · exact absurd h26 (by decide)
        · exact absurd h24 (by decide)
      · exact absurd h23 (by decide)
    · exact absurd h22 (by decide)
  · rw [show nI (2 ^ 6 - 1) = (63 : Int32) from rfl]
    refine kv_istore_n (ls2 := [_, _]) dJ6_numberOfTrailingZeros_0f7a4_7 rfl rfl rfl rfl ?_
    refine kv_iload_n dJ6_numberOfTrailingZeros_0f7a4_8 rfl ?_
    refine kv_if_gt dJ6_numberOfTrailingZeros_0f7a4_9 17 (by decide) (fun h27 => ?_) (fun h27 => ?_)
    · refine kv_iconst dJ6_numberOfTrailingZeros_0f7a4_17 1 ki_1 ?_
      refine kv_istore_n (ls2 := [_, _]) dJ6_numberOfTrailingZeros_0f7a4_18 rfl rfl rfl rfl ?_
      refine kv_iload_n dJ6_numberOfTrailingZeros_0f7a4_19 rfl ?_
      refine kv_ldcw dJ6_numberOfTrailingZeros_0f7a4_20 kJ6_264 ?_
      refine kv_icmp_le dJ6_numberOfTrailingZeros_0f7a4_23 34 (by decide) (fun h28 => ?_) (fun h28 => ?_)
      · refine kv_iload_n dJ6_numberOfTrailingZeros_0f7a4_34 rfl ?_
        refine kv_sipush dJ6_numberOfTrailingZeros_0f7a4_35 256 kz_256 ?_
        refine kv_icmp_le dJ6_numberOfTrailingZeros_0f7a4_38 49 (by decide) (fun h29 => ?_) (fun h29 => ?_)
        · refine kv_iload_n dJ6_numberOfTrailingZeros_0f7a4_49 rfl ?_
          refine kv_bipush dJ6_numberOfTrailingZeros_0f7a4_50 16 kb_16 ?_
          refine kv_icmp_le dJ6_numberOfTrailingZeros_0f7a4_52 62 (by decide) (fun h30 => ?_) (fun h30 => ?_)
          · exact absurd h30 (by decide)
          · refine kv_iinc (ls2 := [_, _]) dJ6_numberOfTrailingZeros_0f7a4_55 (5 : Int32) rfl rfl rfl rfl rfl rfl ?_
            refine kv_iload_n dJ6_numberOfTrailingZeros_0f7a4_58 rfl ?_
            refine kv_iconst dJ6_numberOfTrailingZeros_0f7a4_59 4 ki_4 ?_
            refine kv_iushr dJ6_numberOfTrailingZeros_0f7a4_60 ?_
            rw [show ((63 : Int32).toUInt32 >>> ((4 : Int32).toUInt32 &&& Int32.toUInt32 31)).toInt32 = 3 from rfl]
            refine kv_istore_n (ls2 := [_, _]) dJ6_numberOfTrailingZeros_0f7a4_61 rfl rfl rfl rfl ?_
            refine kv_iload_n dJ6_numberOfTrailingZeros_0f7a4_62 rfl ?_
            refine kv_iconst dJ6_numberOfTrailingZeros_0f7a4_63 4 ki_4 ?_
            refine kv_icmp_le dJ6_numberOfTrailingZeros_0f7a4_64 74 (by decide) (fun h31 => ?_) (fun h31 => ?_)
            · refine kv_iload_n dJ6_numberOfTrailingZeros_0f7a4_74 rfl ?_
              refine kv_iload_n dJ6_numberOfTrailingZeros_0f7a4_75 rfl ?_
              refine kv_iconst dJ6_numberOfTrailingZeros_0f7a4_76 1 ki_1 ?_
              refine kv_iushr dJ6_numberOfTrailingZeros_0f7a4_77 ?_
              rw [show ((3 : Int32).toUInt32 >>> ((1 : Int32).toUInt32 &&& Int32.toUInt32 31)).toInt32 = 1 from rfl]
              refine kv_iadd dJ6_numberOfTrailingZeros_0f7a4_78 ?_
              rw [show ((5 : Int32) + 1) = 6 from rfl]
              exact kv_iret dJ6_numberOfTrailingZeros_0f7a4_79 rfl ⟨rfl, rfl⟩
            · exact absurd h31 (by decide)
        · exact absurd h29 (by decide)
      · exact absurd h28 (by decide)
    · exact absurd h27 (by decide)
  · rw [show nI (2 ^ 7 - 1) = (127 : Int32) from rfl]
    refine kv_istore_n (ls2 := [_, _]) dJ6_numberOfTrailingZeros_0f7a4_7 rfl rfl rfl rfl ?_
    refine kv_iload_n dJ6_numberOfTrailingZeros_0f7a4_8 rfl ?_
    refine kv_if_gt dJ6_numberOfTrailingZeros_0f7a4_9 17 (by decide) (fun h32 => ?_) (fun h32 => ?_)
    · refine kv_iconst dJ6_numberOfTrailingZeros_0f7a4_17 1 ki_1 ?_
      refine kv_istore_n (ls2 := [_, _]) dJ6_numberOfTrailingZeros_0f7a4_18 rfl rfl rfl rfl ?_
      refine kv_iload_n dJ6_numberOfTrailingZeros_0f7a4_19 rfl ?_
      refine kv_ldcw dJ6_numberOfTrailingZeros_0f7a4_20 kJ6_264 ?_
      refine kv_icmp_le dJ6_numberOfTrailingZeros_0f7a4_23 34 (by decide) (fun h33 => ?_) (fun h33 => ?_)
      · refine kv_iload_n dJ6_numberOfTrailingZeros_0f7a4_34 rfl ?_
        refine kv_sipush dJ6_numberOfTrailingZeros_0f7a4_35 256 kz_256 ?_
        refine kv_icmp_le dJ6_numberOfTrailingZeros_0f7a4_38 49 (by decide) (fun h34 => ?_) (fun h34 => ?_)
        · refine kv_iload_n dJ6_numberOfTrailingZeros_0f7a4_49 rfl ?_
          refine kv_bipush dJ6_numberOfTrailingZeros_0f7a4_50 16 kb_16 ?_
          refine kv_icmp_le dJ6_numberOfTrailingZeros_0f7a4_52 62 (by decide) (fun h35 => ?_) (fun h35 => ?_)
          · exact absurd h35 (by decide)
          · refine kv_iinc (ls2 := [_, _]) dJ6_numberOfTrailingZeros_0f7a4_55 (5 : Int32) rfl rfl rfl rfl rfl rfl ?_
            refine kv_iload_n dJ6_numberOfTrailingZeros_0f7a4_58 rfl ?_
            refine kv_iconst dJ6_numberOfTrailingZeros_0f7a4_59 4 ki_4 ?_
            refine kv_iushr dJ6_numberOfTrailingZeros_0f7a4_60 ?_
            rw [show ((127 : Int32).toUInt32 >>> ((4 : Int32).toUInt32 &&& Int32.toUInt32 31)).toInt32 = 7 from rfl]
            refine kv_istore_n (ls2 := [_, _]) dJ6_numberOfTrailingZeros_0f7a4_61 rfl rfl rfl rfl ?_
            refine kv_iload_n dJ6_numberOfTrailingZeros_0f7a4_62 rfl ?_
            refine kv_iconst dJ6_numberOfTrailingZeros_0f7a4_63 4 ki_4 ?_
            refine kv_icmp_le dJ6_numberOfTrailingZeros_0f7a4_64 74 (by decide) (fun h36 => ?_) (fun h36 => ?_)
            · exact absurd h36 (by decide)
            · refine kv_iinc (ls2 := [_, _]) dJ6_numberOfTrailingZeros_0f7a4_67 (7 : Int32) rfl rfl rfl rfl rfl rfl ?_
              refine kv_iload_n dJ6_numberOfTrailingZeros_0f7a4_70 rfl ?_
              refine kv_iconst dJ6_numberOfTrailingZeros_0f7a4_71 2 ki_2 ?_
              refine kv_iushr dJ6_numberOfTrailingZeros_0f7a4_72 ?_
              rw [show ((7 : Int32).toUInt32 >>> ((2 : Int32).toUInt32 &&& Int32.toUInt32 31)).toInt32 = 1 from rfl]
              refine kv_istore_n (ls2 := [_, _]) dJ6_numberOfTrailingZeros_0f7a4_73 rfl rfl rfl rfl ?_
              refine kv_iload_n dJ6_numberOfTrailingZeros_0f7a4_74 rfl ?_
              refine kv_iload_n dJ6_numberOfTrailingZeros_0f7a4_75 rfl ?_
              refine kv_iconst dJ6_numberOfTrailingZeros_0f7a4_76 1 ki_1 ?_
              refine kv_iushr dJ6_numberOfTrailingZeros_0f7a4_77 ?_
              rw [show ((1 : Int32).toUInt32 >>> ((1 : Int32).toUInt32 &&& Int32.toUInt32 31)).toInt32 = 0 from rfl]
              refine kv_iadd dJ6_numberOfTrailingZeros_0f7a4_78 ?_
              rw [show ((7 : Int32) + 0) = 7 from rfl]
              exact kv_iret dJ6_numberOfTrailingZeros_0f7a4_79 rfl ⟨rfl, rfl⟩
        · exact absurd h34 (by decide)
      · exact absurd h33 (by decide)
    · exact absurd h32 (by decide)
  · rw [show nI (2 ^ 8 - 1) = (255 : Int32) from rfl]
    refine kv_istore_n (ls2 := [_, _]) dJ6_numberOfTrailingZeros_0f7a4_7 rfl rfl rfl rfl ?_
    refine kv_iload_n dJ6_numberOfTrailingZeros_0f7a4_8 rfl ?_
    refine kv_if_gt dJ6_numberOfTrailingZeros_0f7a4_9 17 (by decide) (fun h37 => ?_) (fun h37 => ?_)
    · refine kv_iconst dJ6_numberOfTrailingZeros_0f7a4_17 1 ki_1 ?_
      refine kv_istore_n (ls2 := [_, _]) dJ6_numberOfTrailingZeros_0f7a4_18 rfl rfl rfl rfl ?_
      refine kv_iload_n dJ6_numberOfTrailingZeros_0f7a4_19 rfl ?_
      refine kv_ldcw dJ6_numberOfTrailingZeros_0f7a4_20 kJ6_264 ?_
      refine kv_icmp_le dJ6_numberOfTrailingZeros_0f7a4_23 34 (by decide) (fun h38 => ?_) (fun h38 => ?_)
      · refine kv_iload_n dJ6_numberOfTrailingZeros_0f7a4_34 rfl ?_
        refine kv_sipush dJ6_numberOfTrailingZeros_0f7a4_35 256 kz_256 ?_
        refine kv_icmp_le dJ6_numberOfTrailingZeros_0f7a4_38 49 (by decide) (fun h39 => ?_) (fun h39 => ?_)
        · refine kv_iload_n dJ6_numberOfTrailingZeros_0f7a4_49 rfl ?_
          refine kv_bipush dJ6_numberOfTrailingZeros_0f7a4_50 16 kb_16 ?_
          refine kv_icmp_le dJ6_numberOfTrailingZeros_0f7a4_52 62 (by decide) (fun h40 => ?_) (fun h40 => ?_)
          · exact absurd h40 (by decide)
          · refine kv_iinc (ls2 := [_, _]) dJ6_numberOfTrailingZeros_0f7a4_55 (5 : Int32) rfl rfl rfl rfl rfl rfl ?_
            refine kv_iload_n dJ6_numberOfTrailingZeros_0f7a4_58 rfl ?_
            refine kv_iconst dJ6_numberOfTrailingZeros_0f7a4_59 4 ki_4 ?_
            refine kv_iushr dJ6_numberOfTrailingZeros_0f7a4_60 ?_
            rw [show ((255 : Int32).toUInt32 >>> ((4 : Int32).toUInt32 &&& Int32.toUInt32 31)).toInt32 = 15 from rfl]
            refine kv_istore_n (ls2 := [_, _]) dJ6_numberOfTrailingZeros_0f7a4_61 rfl rfl rfl rfl ?_
            refine kv_iload_n dJ6_numberOfTrailingZeros_0f7a4_62 rfl ?_
            refine kv_iconst dJ6_numberOfTrailingZeros_0f7a4_63 4 ki_4 ?_
            refine kv_icmp_le dJ6_numberOfTrailingZeros_0f7a4_64 74 (by decide) (fun h41 => ?_) (fun h41 => ?_)
            · exact absurd h41 (by decide)
            · refine kv_iinc (ls2 := [_, _]) dJ6_numberOfTrailingZeros_0f7a4_67 (7 : Int32) rfl rfl rfl rfl rfl rfl ?_
              refine kv_iload_n dJ6_numberOfTrailingZeros_0f7a4_70 rfl ?_
              refine kv_iconst dJ6_numberOfTrailingZeros_0f7a4_71 2 ki_2 ?_
              refine kv_iushr dJ6_numberOfTrailingZeros_0f7a4_72 ?_
              rw [show ((15 : Int32).toUInt32 >>> ((2 : Int32).toUInt32 &&& Int32.toUInt32 31)).toInt32 = 3 from rfl]
              refine kv_istore_n (ls2 := [_, _]) dJ6_numberOfTrailingZeros_0f7a4_73 rfl rfl rfl rfl ?_
              refine kv_iload_n dJ6_numberOfTrailingZeros_0f7a4_74 rfl ?_
              refine kv_iload_n dJ6_numberOfTrailingZeros_0f7a4_75 rfl ?_
              refine kv_iconst dJ6_numberOfTrailingZeros_0f7a4_76 1 ki_1 ?_
              refine kv_iushr dJ6_numberOfTrailingZeros_0f7a4_77 ?_
              rw [show ((3 : Int32).toUInt32 >>> ((1 : Int32).toUInt32 &&& Int32.toUInt32 31)).toInt32 = 1 from rfl]
              refine kv_iadd dJ6_numberOfTrailingZeros_0f7a4_78 ?_
              rw [show ((7 : Int32) + 1) = 8 from rfl]
              exact kv_iret dJ6_numberOfTrailingZeros_0f7a4_79 rfl ⟨rfl, rfl⟩
        · exact absurd h39 (by decide)
      · exact absurd h38 (by decide)
    · exact absurd h37 (by decide)
  · rw [show nI (2 ^ 9 - 1) = (511 : Int32) from rfl]
    refine kv_istore_n (ls2 := [_, _]) dJ6_numberOfTrailingZeros_0f7a4_7 rfl rfl rfl rfl ?_
    refine kv_iload_n dJ6_numberOfTrailingZeros_0f7a4_8 rfl ?_
    refine kv_if_gt dJ6_numberOfTrailingZeros_0f7a4_9 17 (by decide) (fun h42 => ?_) (fun h42 => ?_)
    · refine kv_iconst dJ6_numberOfTrailingZeros_0f7a4_17 1 ki_1 ?_
      refine kv_istore_n (ls2 := [_, _]) dJ6_numberOfTrailingZeros_0f7a4_18 rfl rfl rfl rfl ?_
      refine kv_iload_n dJ6_numberOfTrailingZeros_0f7a4_19 rfl ?_
      refine kv_ldcw dJ6_numberOfTrailingZeros_0f7a4_20 kJ6_264 ?_
      refine kv_icmp_le dJ6_numberOfTrailingZeros_0f7a4_23 34 (by decide) (fun h43 => ?_) (fun h43 => ?_)
      · refine kv_iload_n dJ6_numberOfTrailingZeros_0f7a4_34 rfl ?_
        refine kv_sipush dJ6_numberOfTrailingZeros_0f7a4_35 256 kz_256 ?_
        refine kv_icmp_le dJ6_numberOfTrailingZeros_0f7a4_38 49 (by decide) (fun h44 => ?_) (fun h44 => ?_)
        · exact absurd h44 (by decide)
        · refine kv_iinc (ls2 := [_, _]) dJ6_numberOfTrailingZeros_0f7a4_41 (9 : Int32) rfl rfl rfl rfl rfl rfl ?_
          refine kv_iload_n dJ6_numberOfTrailingZeros_0f7a4_44 rfl ?_
          refine kv_bipush dJ6_numberOfTrailingZeros_0f7a4_45 8 kb_8 ?_
          refine kv_iushr dJ6_numberOfTrailingZeros_0f7a4_47 ?_
          rw [show ((511 : Int32).toUInt32 >>> ((8 : Int32).toUInt32 &&& Int32.toUInt32 31)).toInt32 = 1 from rfl]
          refine kv_istore_n (ls2 := [_, _]) dJ6_numberOfTrailingZeros_0f7a4_48 rfl rfl rfl rfl ?_
          refine kv_iload_n dJ6_numberOfTrailingZeros_0f7a4_49 rfl ?_
          refine kv_bipush dJ6_numberOfTrailingZeros_0f7a4_50 16 kb_16 ?_
          refine kv_icmp_le dJ6_numberOfTrailingZeros_0f7a4_52 62 (by decide) (fun h45 => ?_) (fun h45 => ?_)
          · refine kv_iload_n dJ6_numberOfTrailingZeros_0f7a4_62 rfl ?_
            refine kv_iconst dJ6_numberOfTrailingZeros_0f7a4_63 4 ki_4 ?_
            refine kv_icmp_le dJ6_numberOfTrailingZeros_0f7a4_64 74 (by decide) (fun h46 => ?_) (fun h46 => ?_)
            · refine kv_iload_n dJ6_numberOfTrailingZeros_0f7a4_74 rfl ?_
              refine kv_iload_n dJ6_numberOfTrailingZeros_0f7a4_75 rfl ?_
              refine kv_iconst dJ6_numberOfTrailingZeros_0f7a4_76 1 ki_1 ?_
              refine kv_iushr dJ6_numberOfTrailingZeros_0f7a4_77 ?_
              rw [show ((1 : Int32).toUInt32 >>> ((1 : Int32).toUInt32 &&& Int32.toUInt32 31)).toInt32 = 0 from rfl]
              refine kv_iadd dJ6_numberOfTrailingZeros_0f7a4_78 ?_
              rw [show ((9 : Int32) + 0) = 9 from rfl]
              exact kv_iret dJ6_numberOfTrailingZeros_0f7a4_79 rfl ⟨rfl, rfl⟩
            · exact absurd h46 (by decide)
          · exact absurd h45 (by decide)
      · exact absurd h43 (by decide)
    · exact absurd h42 (by decide)
  · rw [show nI (2 ^ 10 - 1) = (1023 : Int32) from rfl]
    refine kv_istore_n (ls2 := [_, _]) dJ6_numberOfTrailingZeros_0f7a4_7 rfl rfl rfl rfl ?_
    refine kv_iload_n dJ6_numberOfTrailingZeros_0f7a4_8 rfl ?_
    refine kv_if_gt dJ6_numberOfTrailingZeros_0f7a4_9 17 (by decide) (fun h47 => ?_) (fun h47 => ?_)
    · refine kv_iconst dJ6_numberOfTrailingZeros_0f7a4_17 1 ki_1 ?_
      refine kv_istore_n (ls2 := [_, _]) dJ6_numberOfTrailingZeros_0f7a4_18 rfl rfl rfl rfl ?_
      refine kv_iload_n dJ6_numberOfTrailingZeros_0f7a4_19 rfl ?_
      refine kv_ldcw dJ6_numberOfTrailingZeros_0f7a4_20 kJ6_264 ?_
      refine kv_icmp_le dJ6_numberOfTrailingZeros_0f7a4_23 34 (by decide) (fun h48 => ?_) (fun h48 => ?_)
      · refine kv_iload_n dJ6_numberOfTrailingZeros_0f7a4_34 rfl ?_
        refine kv_sipush dJ6_numberOfTrailingZeros_0f7a4_35 256 kz_256 ?_
        refine kv_icmp_le dJ6_numberOfTrailingZeros_0f7a4_38 49 (by decide) (fun h49 => ?_) (fun h49 => ?_)
        · exact absurd h49 (by decide)
        · refine kv_iinc (ls2 := [_, _]) dJ6_numberOfTrailingZeros_0f7a4_41 (9 : Int32) rfl rfl rfl rfl rfl rfl ?_
          refine kv_iload_n dJ6_numberOfTrailingZeros_0f7a4_44 rfl ?_
          refine kv_bipush dJ6_numberOfTrailingZeros_0f7a4_45 8 kb_8 ?_
          refine kv_iushr dJ6_numberOfTrailingZeros_0f7a4_47 ?_
          rw [show ((1023 : Int32).toUInt32 >>> ((8 : Int32).toUInt32 &&& Int32.toUInt32 31)).toInt32 = 3 from rfl]
          refine kv_istore_n (ls2 := [_, _]) dJ6_numberOfTrailingZeros_0f7a4_48 rfl rfl rfl rfl ?_
          refine kv_iload_n dJ6_numberOfTrailingZeros_0f7a4_49 rfl ?_
          refine kv_bipush dJ6_numberOfTrailingZeros_0f7a4_50 16 kb_16 ?_
          refine kv_icmp_le dJ6_numberOfTrailingZeros_0f7a4_52 62 (by decide) (fun h50 => ?_) (fun h50 => ?_)
          · refine kv_iload_n dJ6_numberOfTrailingZeros_0f7a4_62 rfl ?_
            refine kv_iconst dJ6_numberOfTrailingZeros_0f7a4_63 4 ki_4 ?_
            refine kv_icmp_le dJ6_numberOfTrailingZeros_0f7a4_64 74 (by decide) (fun h51 => ?_) (fun h51 => ?_)
            · refine kv_iload_n dJ6_numberOfTrailingZeros_0f7a4_74 rfl ?_
              refine kv_iload_n dJ6_numberOfTrailingZeros_0f7a4_75 rfl ?_
              refine kv_iconst dJ6_numberOfTrailingZeros_0f7a4_76 1 ki_1 ?_
              refine kv_iushr dJ6_numberOfTrailingZeros_0f7a4_77 ?_
              rw [show ((3 : Int32).toUInt32 >>> ((1 : Int32).toUInt32 &&& Int32.toUInt32 31)).toInt32 = 1 from rfl]
              refine kv_iadd dJ6_numberOfTrailingZeros_0f7a4_78 ?_
              rw [show ((9 : Int32) + 1) = 10 from rfl]
              exact kv_iret dJ6_numberOfTrailingZeros_0f7a4_79 rfl ⟨rfl, rfl⟩
            · exact absurd h51 (by decide)
          · exact absurd h50 (by decide)
      · exact absurd h48 (by decide)
    · exact absurd h47 (by decide)

set_option maxRecDepth 20000 in
set_option maxHeartbeats 4000000 in
theorem qX4_fewest {w : KW} {l : Launch} {u : KMem} (hu : kWd u) {p : Nat → Int64} (hp : ∀ k, k < 11 → u.2.2.1 390 k = p k) (h0 : u.2.1 393 0 = 0) : KC w l mX4_fewest 1 0 0 [.ref 389] u (fun r v => r = some (.int (nI (kPv p))) ∧ kEq kSF u v) := by
  refine KC.of (ls := [_, _, _, _, _]) rfl rfl (Nat.le_of_ble_eq_true rfl) ?_
  refine kv_iconst dX4_fewest_0 0 ki_0 ?_
  refine kv_istore_n (ls2 := [_, _, _, _, _]) dX4_fewest_1 rfl rfl rfl rfl ?_
  refine kv_iconst dX4_fewest_2 0 ki_0 ?_
  refine kv_istore_n (ls2 := [_, _, _, _, _]) dX4_fewest_3 rfl rfl rfl rfl ?_
  refine KV.loc (ls2 := [some (.ref 389), some (.int (nI (kNz p (0)).length)), some (.int (nI (0))), none, none]) ?_ (ksS (by first | rfl | exact congrArg (fun z => some (Value.int z)) ((kv_inc1 _).trans (congrArg nI (by rw [en, List.length_append]; rfl))) | exact congrArg (fun z => some (Value.int (nI z))) (by rw [en])) (ksS (by first | rfl | exact congrArg (fun z => some (Value.int z)) ((kv_inc1 _).trans (congrArg nI (by rw [en, List.length_append]; rfl))) | exact congrArg (fun z => some (Value.int (nI z))) (by rw [en])) (ksS (by first | rfl | exact congrArg (fun z => some (Value.int z)) ((kv_inc1 _).trans (congrArg nI (by rw [en, List.length_append]; rfl))) | exact congrArg (fun z => some (Value.int (nI z))) (by rw [en])) (ks0 (ks0 ksN)))))
  refine kn_loop (P := fun i => ∀ v : KMem, kEq kSF u v → (∀ j, j < (kNz p i).length → (kNz p i)[j]? = some (v.2.2.1 391 j)) → KV w l mX4_fewest 1 0 0 4 [some (.ref 389), some (.int (nI ((kNz p i).length))), some (.int (nI (i))), none, none] [] v (fun r v => r = some (.int (nI (kPv p))) ∧ kEq kSF u v)) (11) ?_ (fun i hi ih => ?_) u kEq.rf (fun j hj => absurd hj (Nat.not_lt_zero j))
  · intro v E hq
    have hv := E.wd hu
    have hn11 := kNz_len p 11
    obtain ⟨n, en⟩ : ∃ n, n = (kNz p 11).length := ⟨_, rfl⟩
    rw [← en] at hn11 ⊢
    obtain ⟨q, eq⟩ : ∃ q : Nat → Int64, q = fun j => v.2.2.1 391 j := ⟨_, rfl⟩
    have hq2 : ∀ j, j < (kNz p 11).length → (kNz p 11)[j]? = some (q j) := fun j hj => by rw [eq]; exact hq j hj
    have hfull : kLs q (2 ^ n - 1) n = kNz p 11 := by rw [kFull_ls q n n (Nat.le_refl _), en]; exact kNz_map hq2
    have hpw : 2 ^ n ≤ 2 ^ 11 := Nat.pow_le_pow_right (by decide) hn11
    have hp1 := Nat.two_pow_pos n
    refine kv_iload_n dX4_fewest_4 rfl ?_
    refine kv_bipush dX4_fewest_5 11 kb_11 ?_
    refine kv_icmp_ge dX4_fewest_7 42 (by decide) (fun h1 => ?_) (fun h1 => ?_)
    · refine kv_iconst dX4_fewest_42 1 ki_1 ?_
      refine kv_istore_n (ls2 := [_, _, _, _, _]) dX4_fewest_43 rfl rfl rfl rfl ?_
      refine KV.loc (ls2 := [some (.ref 389), some (.int (nI n)), some (.int (nI (0 + 1))), none, none]) ?_ (ksS rfl (ksS rfl (ksS rfl (ks0 (ks0 ksN)))))
      refine kn_loop (P := fun i => ∀ v : KMem, kEq kSF u v → (∀ j, j < n → v.2.2.1 391 j = q j) → (∀ s, s ≤ i → v.2.2.1 392 s = kSum (kLs q s n) ∧ v.2.1 393 s = nI (kGL (kLs q s n))) → KV w l mX4_fewest 1 0 0 44 [some (.ref 389), some (.int (nI (n))), some (.int (nI (i + 1))), none, none] [] v (fun r v => r = some (.int (nI (kPv p))) ∧ kEq kSF u v)) (2 ^ n - 1) ?_ (fun i hi ih => ?_) v E (fun j _ => by rw [eq]) (fun s hs => by rw [show s = 0 by omega, kLs_0]; exact ⟨hv.2.2.1, (E.2.2.1 393 0 (by unfold kSF; omega)).trans h0⟩)
      · intro v E hQ hS
        have hv := E.wd hu
        refine kv_iload_n dX4_fewest_44 rfl ?_
        refine kv_iconst dX4_fewest_45 1 ki_1 ?_
        refine kv_iload_n dX4_fewest_46 rfl ?_
        refine kv_ishl dX4_fewest_47 ?_
        rw [kn_pow _ (by omega)]
        refine kv_icmp_ge dX4_fewest_48 149 (by decide) (fun h2 => ?_) (fun h2 => ?_)
        · refine kv_iload_n dX4_fewest_149 rfl ?_
          refine kv_aload_n dX4_fewest_150 rfl ?_
          refine kw_gR dX4_fewest_151 fX4_21 hv (by first | rfl | assumption) rfl rfl (by first | rfl | assumption) ?_
          refine kv_iconst dX4_fewest_154 1 ki_1 ?_
          refine kv_iload_n dX4_fewest_155 rfl ?_
          refine kv_ishl dX4_fewest_156 ?_
          rw [kn_pow _ (by omega)]
          refine kv_iconst dX4_fewest_157 1 ki_1 ?_
          refine kv_isub dX4_fewest_158 ?_
          refine kw_il dX4_fewest_159 hv (by first | rfl | assumption) (2 ^ n - 1) (kn_sub rfl (show (1 : Int32) = nI 1 from rfl) hp1) (by omega) rfl ?_
          rw [(hS (2 ^ n - 1) (by omega)).2, hfull]
          refine kv_isub dX4_fewest_160 ?_
          exact kv_iret dX4_fewest_161 rfl ⟨congrArg (fun z => some (Value.int z)) ((kn_sub rfl rfl (by rw [en]; exact kGL_le _ _ rfl)).trans (congrArg nI (by unfold kPv; rw [en]))), E⟩
        · exact absurd (nI_le (by omega) (by omega)) h2
      · have ihi := ih
        intro v E hQ hS
        have hv := E.wd hu
        have ht : i + 1 < 2048 := by omega
        obtain ⟨l_, hl11, hy, hb, hx⟩ := kNt (s := i + 1) (by omega) ht
        have hln : l_ < n := kBit_l (by omega) hb
        have hxl := (kXlt ht hl11 hb).1
        have hsum := (kLs_x (p := q) hb n hln).2
        have hS1 : ∀ s, s ≤ i → (kv_sg v 392 (i + 1) (kSum (kLs q (i + 1) n))).2.1 393 s = nI (kGL (kLs q s n)) := fun s hs => (hS s hs).2
        have hct := kCt_b (i + 1) n
        refine kv_iload_n dX4_fewest_44 rfl ?_
        refine kv_iconst dX4_fewest_45 1 ki_1 ?_
        refine kv_iload_n dX4_fewest_46 rfl ?_
        refine kv_ishl dX4_fewest_47 ?_
        rw [kn_pow _ (by omega)]
        refine kv_icmp_ge dX4_fewest_48 149 (by decide) (fun h3 => ?_) (fun h3 => ?_)
        · exact absurd h3 (kn_ge (by omega) (by omega))
        · refine kv_aload_n dX4_fewest_51 rfl ?_
          refine kw_gR dX4_fewest_52 fX4_18 hv (by first | rfl | assumption) rfl rfl (by first | rfl | assumption) ?_
          refine kv_iload_n dX4_fewest_55 rfl ?_
          refine kv_aload_n dX4_fewest_56 rfl ?_
          refine kw_gR dX4_fewest_57 fX4_18 hv (by first | rfl | assumption) rfl rfl (by first | rfl | assumption) ?_
          refine kv_iload_n dX4_fewest_60 rfl ?_
          refine kv_iload_n dX4_fewest_61 rfl ?_
          refine kv_iconst dX4_fewest_62 1 ki_1 ?_
          refine kv_isub dX4_fewest_63 ?_
          refine kv_iand dX4_fewest_64 ?_
          refine kw_ll dX4_fewest_65 hv (by first | rfl | assumption) ((i + 1) ^^^ 2 ^ l_) hx (by omega) rfl ?_
          rw [(hS ((i + 1) ^^^ 2 ^ l_) (by omega)).1]
          refine kv_aload_n dX4_fewest_66 rfl ?_
          refine kw_gR dX4_fewest_67 fX4_15 hv (by first | rfl | assumption) rfl rfl (by first | rfl | assumption) ?_
          refine kv_iload_n dX4_fewest_70 rfl ?_
          refine kw_Si [_] mJ6_numberOfTrailingZeros_0f7a4 dX4_fewest_71 lX4_92 wJ6_numberOfTrailingZeros_0f7a4 rfl rfl rfl (qJ6_numberOfTrailingZeros_0f7a4 hv hl11 hy) (by decide) ?_
          refine kw_ll dX4_fewest_74 hv (by first | rfl | assumption) (l_) rfl (by omega) rfl ?_
          rw [hQ l_ hln]
          refine kv_ladd dX4_fewest_75 ?_
          rw [← hsum]
          refine kw_ls dX4_fewest_76 hv (by first | rfl | assumption) (i + 1) rfl (by omega) rfl ?_
          refine kv_iconst dX4_fewest_77 0 ki_0 ?_
          refine kv_istore_n (ls2 := [_, _, _, _, _]) dX4_fewest_78 rfl rfl rfl rfl ?_
          refine kv_iconst dX4_fewest_79 0 ki_0 ?_
          refine kv_istore (ls2 := [_, _, _, _, _]) dX4_fewest_80 rfl rfl rfl rfl ?_
          refine KV.loc (ls2 := [some (.ref 389), some (.int (nI n)), some (.int (nI (i + 1))), some (.int (nI (kMx (fun r => kGL ((kLs q (i + 1) n).eraseIdx r)) (kCt (i + 1) (0))))), some (.int (nI (0)))]) ?_ (ksS rfl (ksS rfl (ksS rfl (ksS rfl (ksS rfl ksN)))))
          refine kn_loop (P := fun j => KV w l mX4_fewest 1 0 0 82 [some (.ref 389), some (.int (nI n)), some (.int (nI (i + 1))), some (.int (nI (kMx (fun r => kGL ((kLs q (i + 1) n).eraseIdx r)) (kCt (i + 1) j)))), some (.int (nI j))] [] (kv_sg v 392 (i + 1) (kSum (kLs q (i + 1) n))) (fun r v => r = some (.int (nI (kPv p))) ∧ kEq kSF u v)) (n) ?_ (fun j hj ih => ?_)
          · have hM := kGs_end (p := q) (kCt_pos hb hln)
            have hMb : kGL (kLs q (i + 1) n) ≤ kCt (i + 1) n := kGL_le _ _ (kLs_len q (i + 1) n)
            refine kv_iload dX4_fewest_82 rfl ?_
            refine kv_iload_n dX4_fewest_84 rfl ?_
            refine kv_icmp_ge dX4_fewest_85 119 (by decide) (fun h4 => ?_) (fun h4 => ?_)
            · refine kv_aload_n dX4_fewest_119 rfl ?_
              refine kw_gR dX4_fewest_120 fX4_21 hv (by first | rfl | assumption) rfl rfl (by first | rfl | assumption) ?_
              refine kv_iload_n dX4_fewest_123 rfl ?_
              refine kv_aload_n dX4_fewest_124 rfl ?_
              refine kw_gR dX4_fewest_125 fX4_18 hv (by first | rfl | assumption) rfl rfl (by first | rfl | assumption) ?_
              refine kv_iload_n dX4_fewest_128 rfl ?_
              refine kw_ll dX4_fewest_129 hv (by first | rfl | assumption) (i + 1) rfl (by omega) rfl ?_
              rw [kv_sg_s]
              refine kv_lconst dX4_fewest_130 0 kl_0 ?_
              refine kv_lcmp dX4_fewest_131 ?_
              refine kv_if_ne dX4_fewest_132 141 (by decide) (fun h5 => ?_) (fun h5 => ?_)
              · have hfin : nI (kMx (fun r => kGL ((kLs q (i + 1) n).eraseIdx r)) (kCt (i + 1) n)) = nI (kGL (kLs q (i + 1) n)) := congrArg nI (hM.trans (congrArg (fun z => kMx (fun r => kGL ((kLs q (i + 1) n).eraseIdx r)) (kCt (i + 1) n) + z) (if_neg (fun z => h5 ((lg_cmp_eq _ _).mpr z))))).symm
                refine kv_iload_n dX4_fewest_141 rfl ?_
                refine kw_is dX4_fewest_142 hv (by first | rfl | assumption) (i + 1) rfl (by omega) rfl ?_
                refine kv_iinc (ls2 := [_, _, _, _, _]) dX4_fewest_143 (nI (i + 1 + 1)) rfl (kv_inc1 (i + 1)) rfl rfl rfl rfl ?_
                refine kv_goto dX4_fewest_146 44 (by decide) ?_
                refine KV.loc (ihi _ ((E.sg (Or.inr (Or.inl ⟨rfl, by omega⟩))).si (Or.inr (Or.inr ⟨rfl, by omega⟩))) (fun j hj => (kv_sg_n (by omega)).trans (hQ j hj)) (fun s hs => ?_)) (ksS rfl (ksS rfl (ksS rfl (ks0 (ks0 ksN)))))
                by_cases z : s = i + 1
                · rw [z]
                  exact ⟨kv_sg_s _ _ _ _, (kv_si_s _ _ _ _).trans hfin⟩
                · exact ⟨(kv_sg_n (by omega)).trans (hS s (by omega)).1, (kv_si_n (by omega)).trans (hS s (by omega)).2⟩
              · have hfin : nI (kMx (fun r => kGL ((kLs q (i + 1) n).eraseIdx r)) (kCt (i + 1) n)) + 1 = nI (kGL (kLs q (i + 1) n)) := (kn_add rfl (show (1 : Int32) = nI 1 from rfl)).trans (congrArg nI (by rw [hM, if_pos ((lg_cmp_eq _ _).mp h5)]))
                refine kv_iload_n dX4_fewest_135 rfl ?_
                refine kv_iconst dX4_fewest_136 1 ki_1 ?_
                refine kv_iadd dX4_fewest_137 ?_
                refine kv_goto dX4_fewest_138 142 (by decide) ?_
                refine kw_is dX4_fewest_142 hv (by first | rfl | assumption) (i + 1) rfl (by omega) rfl ?_
                refine kv_iinc (ls2 := [_, _, _, _, _]) dX4_fewest_143 (nI (i + 1 + 1)) rfl (kv_inc1 (i + 1)) rfl rfl rfl rfl ?_
                refine kv_goto dX4_fewest_146 44 (by decide) ?_
                refine KV.loc (ihi _ ((E.sg (Or.inr (Or.inl ⟨rfl, by omega⟩))).si (Or.inr (Or.inr ⟨rfl, by omega⟩))) (fun j hj => (kv_sg_n (by omega)).trans (hQ j hj)) (fun s hs => ?_)) (ksS rfl (ksS rfl (ksS rfl (ks0 (ks0 ksN)))))
                by_cases z : s = i + 1
                · rw [z]
                  exact ⟨kv_sg_s _ _ _ _, (kv_si_s _ _ _ _).trans hfin⟩
                · exact ⟨(kv_sg_n (by omega)).trans (hS s (by omega)).1, (kv_si_n (by omega)).trans (hS s (by omega)).2⟩
            · exact absurd h4 (fun q => q (Int32.le_refl _))
          · refine kv_iload dX4_fewest_82 rfl ?_
            refine kv_iload_n dX4_fewest_84 rfl ?_
            refine kv_icmp_ge dX4_fewest_85 119 (by decide) (fun h6 => ?_) (fun h6 => ?_)
            · exact absurd h6 (kn_ge hj (by omega))
            · refine kv_iload_n dX4_fewest_88 rfl ?_
              refine kv_iload dX4_fewest_89 rfl ?_
              refine kv_ishr dX4_fewest_91 ?_
              refine kv_iconst dX4_fewest_92 1 ki_1 ?_
              refine kv_iand dX4_fewest_93 ?_
              refine kv_if_eq dX4_fewest_94 113 (by decide) (fun h7 => ?_) (fun h7 => ?_)
              · have hbj : (i + 1).testBit j = false := by
                  have z := (kBit0 (by omega)).mp h7
                  rw [kTb] at z
                  cases y : (i + 1).testBit j
                  · rfl
                  · rw [y] at z; exact absurd rfl z
                have ec := kGs_n hbj
                refine kv_iinc (ls2 := [_, _, _, _, _]) dX4_fewest_113 (nI (j + 1)) rfl (kv_inc1 j) rfl rfl rfl rfl ?_
                refine kv_goto dX4_fewest_116 82 (by decide) ?_
                exact KV.loc ih (ksS (by first | rfl | exact congrArg (fun z => some (Value.int (nI z))) (by rw [ec]) | exact congrArg (fun z => some (Value.int z)) ((kn_max (by omega) (by omega)).trans (congrArg nI ec.symm))) (ksS (by first | rfl | exact congrArg (fun z => some (Value.int (nI z))) (by rw [ec]) | exact congrArg (fun z => some (Value.int z)) ((kn_max (by omega) (by omega)).trans (congrArg nI ec.symm))) (ksS (by first | rfl | exact congrArg (fun z => some (Value.int (nI z))) (by rw [ec]) | exact congrArg (fun z => some (Value.int z)) ((kn_max (by omega) (by omega)).trans (congrArg nI ec.symm))) (ksS (by first | rfl | exact congrArg (fun z => some (Value.int (nI z))) (by rw [ec]) | exact congrArg (fun z => some (Value.int z)) ((kn_max (by omega) (by omega)).trans (congrArg nI ec.symm))) (ksS (by first | rfl | exact congrArg (fun z => some (Value.int (nI z))) (by rw [ec]) | exact congrArg (fun z => some (Value.int z)) ((kn_max (by omega) (by omega)).trans (congrArg nI ec.symm))) ksN)))))
              · have hbj : (i + 1).testBit j = true := by
                  have z : ((i + 1) >>> j) % 2 = 1 := Classical.byContradiction fun y => h7 ((kBit0 (by omega)).mpr y)
                  rw [kTb] at z
                  cases y : (i + 1).testBit j
                  · rw [y] at z; exact absurd z (by decide)
                  · rfl
                have ec := kGs_y (p := q) hbj hj
                have hxj := (kXlt ht (by omega) hbj).1
                have b1 : kMx (fun r => kGL ((kLs q (i + 1) n).eraseIdx r)) (kCt (i + 1) j) ≤ 100 := kMx_le (fun r hr => Nat.le_trans (kGL_le _ _ rfl) (by have := kLs_len q (i + 1) n; have := List.length_eraseIdx_le (kLs q (i + 1) n) r; omega))
                have b2 : kGL (kLs q ((i + 1) ^^^ 2 ^ j) n) ≤ 100 := Nat.le_trans (kGL_le _ _ (kLs_len q _ n)) (by have := kCt_b ((i + 1) ^^^ 2 ^ j) n; omega)
                refine kv_iload_n dX4_fewest_97 rfl ?_
                refine kv_aload_n dX4_fewest_98 rfl ?_
                refine kw_gR dX4_fewest_99 fX4_21 hv (by first | rfl | assumption) rfl rfl (by first | rfl | assumption) ?_
                refine kv_iload_n dX4_fewest_102 rfl ?_
                refine kv_iconst dX4_fewest_103 1 ki_1 ?_
                refine kv_iload dX4_fewest_104 rfl ?_
                refine kv_ishl dX4_fewest_106 ?_
                refine kv_ixor dX4_fewest_107 ?_
                refine kw_il dX4_fewest_108 hv (by first | rfl | assumption) ((i + 1) ^^^ 2 ^ j) ((congrArg (fun z => nI (i + 1) ^^^ z) (kn_pow j (by omega))).trans (kn_xor _ _)) (by omega) rfl ?_
                rw [hS1 _ (by omega)]
                refine kw_mmax dX4_fewest_109 lX4_98 rfl (by omega) ?_
                refine kv_istore_n (ls2 := [_, _, _, _, _]) dX4_fewest_112 rfl rfl rfl rfl ?_
                refine kv_iinc (ls2 := [_, _, _, _, _]) dX4_fewest_113 (nI (j + 1)) rfl (kv_inc1 j) rfl rfl rfl rfl ?_
                refine kv_goto dX4_fewest_116 82 (by decide) ?_
                exact KV.loc ih (ksS (by first | rfl | exact congrArg (fun z => some (Value.int (nI z))) (by rw [ec]) | exact congrArg (fun z => some (Value.int z)) ((kn_max (by omega) (by omega)).trans (congrArg nI ec.symm))) (ksS (by first | rfl | exact congrArg (fun z => some (Value.int (nI z))) (by rw [ec]) | exact congrArg (fun z => some (Value.int z)) ((kn_max (by omega) (by omega)).trans (congrArg nI ec.symm))) (ksS (by first | rfl | exact congrArg (fun z => some (Value.int (nI z))) (by rw [ec]) | exact congrArg (fun z => some (Value.int z)) ((kn_max (by omega) (by omega)).trans (congrArg nI ec.symm))) (ksS (by first | rfl | exact congrArg (fun z => some (Value.int (nI z))) (by rw [ec]) | exact congrArg (fun z => some (Value.int z)) ((kn_max (by omega) (by omega)).trans (congrArg nI ec.symm))) (ksS (by first | rfl | exact congrArg (fun z => some (Value.int (nI z))) (by rw [ec]) | exact congrArg (fun z => some (Value.int z)) ((kn_max (by omega) (by omega)).trans (congrArg nI ec.symm))) ksN)))))
    · exact absurd (Int32.le_refl (nI 11)) h1
  · intro v E hq
    have hv := E.wd hu
    have hnl := kNz_len p i
    have hpi : v.2.2.1 390 i = p i := (E.2.2.2 390 i (by unfold kSF; omega)).trans (hp i hi)
    refine kv_iload_n dX4_fewest_4 rfl ?_
    refine kv_bipush dX4_fewest_5 11 kb_11 ?_
    refine kv_icmp_ge dX4_fewest_7 42 (by decide) (fun h8 => ?_) (fun h8 => ?_)
    · exact absurd h8 (kn_ge (n := 11) hi (by omega))
    · refine kv_aload_n dX4_fewest_10 rfl ?_
      refine kw_gR dX4_fewest_11 fX4_9 hv (by first | rfl | assumption) rfl rfl (by first | rfl | assumption) ?_
      refine kv_iload_n dX4_fewest_14 rfl ?_
      refine kw_ll dX4_fewest_15 hv (by first | rfl | assumption) (i) rfl (by omega) rfl ?_
      rw [hpi]
      refine kv_lconst dX4_fewest_16 0 kl_0 ?_
      refine kv_lcmp dX4_fewest_17 ?_
      refine kv_if_eq dX4_fewest_18 36 (by decide) (fun h9 => ?_) (fun h9 => ?_)
      · have hz : p i = 0 := (lg_cmp_eq _ _).mp h9
        have en := kNz_y hz
        refine kv_iinc (ls2 := [_, _, _, _, _]) dX4_fewest_36 (nI (i + 1)) rfl (kv_inc1 i) rfl rfl rfl rfl ?_
        refine kv_goto dX4_fewest_39 4 (by decide) ?_
        first
        | exact KV.loc (ih _ E (by rw [en]; exact hq)) (ksS (by first | rfl | exact congrArg (fun z => some (Value.int z)) ((kv_inc1 _).trans (congrArg nI (by rw [en, List.length_append]; rfl))) | exact congrArg (fun z => some (Value.int (nI z))) (by rw [en])) (ksS (by first | rfl | exact congrArg (fun z => some (Value.int z)) ((kv_inc1 _).trans (congrArg nI (by rw [en, List.length_append]; rfl))) | exact congrArg (fun z => some (Value.int (nI z))) (by rw [en])) (ksS (by first | rfl | exact congrArg (fun z => some (Value.int z)) ((kv_inc1 _).trans (congrArg nI (by rw [en, List.length_append]; rfl))) | exact congrArg (fun z => some (Value.int (nI z))) (by rw [en])) (ks0 (ks0 ksN)))))
        | (refine KV.loc (ih _ (E.sg (Or.inl rfl)) ?_) (ksS (by first | rfl | exact congrArg (fun z => some (Value.int z)) ((kv_inc1 _).trans (congrArg nI (by rw [en, List.length_append]; rfl))) | exact congrArg (fun z => some (Value.int (nI z))) (by rw [en])) (ksS (by first | rfl | exact congrArg (fun z => some (Value.int z)) ((kv_inc1 _).trans (congrArg nI (by rw [en, List.length_append]; rfl))) | exact congrArg (fun z => some (Value.int (nI z))) (by rw [en])) (ksS (by first | rfl | exact congrArg (fun z => some (Value.int z)) ((kv_inc1 _).trans (congrArg nI (by rw [en, List.length_append]; rfl))) | exact congrArg (fun z => some (Value.int (nI z))) (by rw [en])) (ks0 (ks0 ksN)))))
           rw [en]
           exact kNz_get (p := p) (q := fun j => (kv_sg v 391 (kNz p i).length (p i)).2.2.1 391 j) (fun j hj => by rw [kv_sg_n (by omega)]; exact hq j hj) (kv_sg_s _ _ _ _))
      · have hz : ¬ p i = 0 := fun z => h9 ((lg_cmp_eq _ _).mpr z)
        have en := kNz_n hz
        refine kv_aload_n dX4_fewest_21 rfl ?_
        refine kw_gR dX4_fewest_22 fX4_15 hv (by first | rfl | assumption) rfl rfl (by first | rfl | assumption) ?_
        refine kv_iload_n dX4_fewest_25 rfl ?_
        refine kv_aload_n dX4_fewest_26 rfl ?_
        refine kw_gR dX4_fewest_27 fX4_9 hv (by first | rfl | assumption) rfl rfl (by first | rfl | assumption) ?_
        refine kv_iload_n dX4_fewest_30 rfl ?_
        refine kw_ll dX4_fewest_31 hv (by first | rfl | assumption) (i) rfl (by omega) rfl ?_
        rw [hpi]
        refine kw_ls dX4_fewest_32 hv (by first | rfl | assumption) ((kNz p i).length) rfl (by omega) rfl ?_
        refine kv_iinc (ls2 := [_, _, _, _, _]) dX4_fewest_33 _ rfl rfl rfl rfl rfl rfl ?_
        refine kv_iinc (ls2 := [_, _, _, _, _]) dX4_fewest_36 (nI (i + 1)) rfl (kv_inc1 i) rfl rfl rfl rfl ?_
        refine kv_goto dX4_fewest_39 4 (by decide) ?_
        first
        | exact KV.loc (ih _ E (by rw [en]; exact hq)) (ksS (by first | rfl | exact congrArg (fun z => some (Value.int z)) ((kv_inc1 _).trans (congrArg nI (by rw [en, List.length_append]; rfl))) | exact congrArg (fun z => some (Value.int (nI z))) (by rw [en])) (ksS (by first | rfl | exact congrArg (fun z => some (Value.int z)) ((kv_inc1 _).trans (congrArg nI (by rw [en, List.length_append]; rfl))) | exact congrArg (fun z => some (Value.int (nI z))) (by rw [en])) (ksS (by first | rfl | exact congrArg (fun z => some (Value.int z)) ((kv_inc1 _).trans (congrArg nI (by rw [en, List.length_append]; rfl))) | exact congrArg (fun z => some (Value.int (nI z))) (by rw [en])) (ks0 (ks0 ksN)))))
        | (refine KV.loc (ih _ (E.sg (Or.inl rfl)) ?_) (ksS (by first | rfl | exact congrArg (fun z => some (Value.int z)) ((kv_inc1 _).trans (congrArg nI (by rw [en, List.length_append]; rfl))) | exact congrArg (fun z => some (Value.int (nI z))) (by rw [en])) (ksS (by first | rfl | exact congrArg (fun z => some (Value.int z)) ((kv_inc1 _).trans (congrArg nI (by rw [en, List.length_append]; rfl))) | exact congrArg (fun z => some (Value.int (nI z))) (by rw [en])) (ksS (by first | rfl | exact congrArg (fun z => some (Value.int z)) ((kv_inc1 _).trans (congrArg nI (by rw [en, List.length_append]; rfl))) | exact congrArg (fun z => some (Value.int (nI z))) (by rw [en])) (ks0 (ks0 ksN)))))
           rw [en]
           exact kNz_get (p := p) (q := fun j => (kv_sg v 391 (kNz p i).length (p i)).2.2.1 391 j) (fun j hj => by rw [kv_sg_n (by omega)]; exact hq j hj) (kv_sg_s _ _ _ _))

set_option maxRecDepth 20000 in
set_option maxHeartbeats 4000000 in
theorem qX11_payments {w : KW} {l : Launch} {u : KMem} (hu : kWd u) {a : KA} (hx : kRX a u) (ho : kOk a) (p0 : Int32) : KC w l mX11_payments 7 0 0 [.ref 0, .int p0] u (kOX u (kpayments a p0).1 (kpayments a p0).2) := by
  have hr := hx.1
  have hg := ho.1
  have hx20 := (hg.cnt (k := 2) rfl).2
  have hc30 := (hg.cnt (k := 0) rfl).2
  have ht10 := (hg.cnt (k := 3) rfl).2
  have he40 := (hg.cnt (k := 4) rfl).2
  have hs16 := hg.cnt (k := 1) rfl
  refine KC.of (ls := [_, _]) rfl rfl (Nat.le_of_ble_eq_true rfl) ?_
  refine kv_iload_n dX11_payments_0 rfl ?_
  refine kv_iconst dX11_payments_1 0 ki_0 ?_
  refine kv_bipush dX11_payments_2 33 kb_33 ?_
  refine kw_Si [_, _, _] mX11_outside dX11_payments_4 lX11_69 wX11_outside rfl rfl rfl (qX11_outside (by exact hu) _ _ _) (by decide) ?_
  refine kw_beq dX11_payments_7 17 (by decide) (fun h1 => ?_) (fun h1 => ?_)
  · have n1 : ¬ kOut p0 0 33 := h1
    have hS : kpayments a p0 = _ := if_neg n1
    refine kv_aload_n dX11_payments_17 rfl ?_
    refine kw_gR dX11_payments_18 fX11_40 hu (by first | rfl | assumption) rfl rfl (by first | rfl | assumption) ?_
    refine kv_iload_n dX11_payments_21 rfl ?_
    refine kw_VQ [_] mX4_open dX11_payments_22 lX11_312 wX4_open kC4 hu rfl (by first | rfl | assumption) rfl rfl rfl (qX4_open hu hr hg p0) (by decide) (fun _ v1 q1 => ?_)
    obtain ⟨rfl, eL, hp, hh⟩ := q1
    have e1 := kSL_X eL
    have hu1 := e1.wd hu
    have E1 := e1
    refine kv_aload_n dX11_payments_25 rfl ?_
    refine kw_gR dX11_payments_26 fX11_40 hu1 (by first | rfl | assumption) rfl rfl (by first | rfl | assumption) ?_
    refine kw_VQ [] mX4_fewest dX11_payments_29 lX11_323 wX4_fewest kC4 hu1 rfl (by first | rfl | assumption) rfl rfl rfl (qX4_fewest hu1 hp ((eL.2.2.1 393 0 (by unfold kSL; omega)).trans hx.2.1.2)) (by decide) (fun _ v2 q2 => ?_)
    obtain ⟨rfl, eF⟩ := q2
    have e2 : kEq kSX v1 v2 := eF.wk (fun a k q => Or.inl (by unfold kSF at q; omega))
    have hu2 := e2.wd hu1
    have E2 := E1.tr e2
    exact kv_iret dX11_payments_32 rfl (by rw [hS]; exact kOX.id hx ho hu E2 rfl)
  · have hS : kpayments a p0 = (-1000001, kF a 1) := if_pos (h1)
    refine kv_aload_n dX11_payments_10 rfl ?_
    refine kv_ldc dX11_payments_11 kX11_74 ?_
    refine kw_Vi [_] mX11_refuse dX11_payments_13 lX11_75 wX11_refuse kC11 hu rfl (by first | rfl | assumption) rfl rfl rfl (qX11_refuse (by exact hu) 1 (by decide) (by decide) _ (by decide)) (by decide) ?_
    exact kv_iret dX11_payments_16 rfl (by rw [hS]; exact kOX.no hx ho hu (by decide) rfl)

