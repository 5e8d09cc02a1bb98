/-! ring, rings -/
def kWs (T : Nat → Nat) (n r : Nat) : Nat → Nat
  | 0 => 0
  | k + 1 => kRgA T n r k
theorem kWs_eq {T : Nat → Nat} {n c k : Nat} (hk : k ≤ 20) (h : kRgA T n (2 ^ c) k = kWs T n (2 ^ c) k) : kRgA T n (2 ^ c) k = kRg T n c := by
  cases k with
  | zero => exact absurd h (by show ¬ 2 ^ c = 0; have := Nat.two_pow_pos c; omega)
  | succ k =>
    have h1 : kRgA T n (2 ^ c) (k + 1) = kRgA T n (2 ^ c) k := h
    have h2 := kRgA_fix h1 (20 - k)
    rw [show k + (20 - k) = 20 by omega] at h2
    rw [h1]; exact h2.symm
theorem kWs_b {T : Nat → Nat} {r n : Nat} (hr : r < 2 ^ 20) (hT : ∀ i, i < n → T i < 2 ^ 20) : ∀ k, kWs T n r k < 2 ^ 20
  | 0 => by show 0 < 2 ^ 20; decide
  | k + 1 => kRgA_b hr hT k
theorem kPsA_y {T : Nat → Nat} {r i : Nat} (h : (kPsA T r i >>> i) % 2 = 1) : kPsA T r (i + 1) = kPsA T r i ||| T i := by
  show kPsA T r i ||| (if (kPsA T r i >>> i) % 2 = 1 then T i else 0) = _
  rw [if_pos h]
theorem kPsA_n {T : Nat → Nat} {r i : Nat} (h : ¬ (kPsA T r i >>> i) % 2 = 1) : kPsA T r (i + 1) = kPsA T r i := by
  show kPsA T r i ||| (if (kPsA T r i >>> i) % 2 = 1 then T i else 0) = _
  rw [if_neg h, Nat.or_zero]
theorem kBit0 {n i : Nat} (hi : i < 24) : ((nI n >>> (nI i &&& 31)) &&& 1 = 0) ↔ ¬ (n >>> i) % 2 = 1 := by
  rw [kb_at _ (by omega), kb_n _ (by omega), kb_bit]
  exact (nI_eq (b := 0) (by omega) (by omega)).trans ⟨fun q => by omega, fun q => by omega⟩
def kRc (T : Nat → Nat) (n s : Nat) : Nat → Nat
  | 0 => 0
  | a + 1 => kRc T n s a + (if ¬ (kSnA T n a >>> a) % 2 = 1 ∧ s ≤ kCt (kRg T n a) 24 then 1 else 0)
theorem kSnA_b {T : Nat → Nat} {n : Nat} (hn : n ≤ 20) (hT : ∀ i, i < n → T i < 2 ^ 20) : ∀ a, a ≤ n → kSnA T n a < 2 ^ 20
  | 0, _ => by show 0 < 2 ^ 20; decide
  | a + 1, ha => Nat.or_lt_two_pow (kSnA_b hn hT a (by omega)) (kRgA_b (kCt_pow a (by omega)).2 hT 20)
theorem kSnA_s {T : Nat → Nat} {n a : Nat} (hn : n ≤ 20) (hT : ∀ i, i < n → T i < 2 ^ 20) (ha : a < n) (h : (kSnA T n a >>> a) % 2 = 1) : kSnA T n (a + 1) = kSnA T n a := by
  refine kSb.or_eq (kSnA_in hn hT a (by omega) a ha ?_)
  rw [kTb] at h
  cases z : (kSnA T n a).testBit a
  · rw [z] at h; exact absurd h (by decide)
  · rfl
def kring (a : KA) (p0 : Int32) : Int32 × KA := if kOut p0 0 (a 0 2 - 1) then (-1000001, kF a 1) else (nI (kRg (kTt (a 0) (kN (a 0) 2)) (kN (a 0) 2) p0.toNatClampNeg), a)
def krings (a : KA) (p0 : Int32) : Int32 × KA := if kOut p0 1 20 then (-1000001, kF a 1) else (nI (kRc (kTt (a 0) (kN (a 0) 2)) (kN (a 0) 2) p0.toNatClampNeg (kN (a 0) 2)), a)
set_option maxRecDepth 20000 in
set_option maxHeartbeats 4000000 in
theorem qX8_ringOf {w : KW} {l : Launch} {u : KMem} (hu : kWd u) {g : Nat → Int32} (hr : kRS 1 g u) (hg : kGI g) (hT : ∀ c, c < kN g 2 → u.2.1 396 c = nI (kTt g (kN g 2) c)) (c : Nat) (hc : c < kN g 2) : KC w l mX8_ringOf 0 0 0 [.ref 394, .int (nI c)] u (kq (some (.int (nI (kRg (kTt g (kN g 2)) (kN g 2) c)))) u) := by
  have hx20 := (hg.cnt (k := 2) rfl).2
  have hw := hg.cnt (k := 2) rfl
  have hTl : ∀ i, i < kN g 2 → (kTt g (kN g 2)) i < 2 ^ 20 := fun i _ => kTt_lt (by omega) i
  have hcp := kCt_pow c (by omega)
  have hRb := fun k => kRgA_b (n := kN g 2) hcp.2 hTl k
  have hWb := fun k => kWs_b (n := kN g 2) hcp.2 hTl k
  refine KC.of (ls := [_, _, _, _, _, _]) rfl rfl (Nat.le_of_ble_eq_true rfl) ?_
  refine kv_iconst dX8_ringOf_0 1 ki_1 ?_
  refine kv_iload_n dX8_ringOf_1 rfl ?_
  refine kv_ishl dX8_ringOf_2 ?_
  rw [kn_pow c (by omega)]
  refine kv_istore_n (ls2 := [_, _, _, _, _, _]) dX8_ringOf_3 rfl rfl rfl rfl ?_
  refine kv_iconst dX8_ringOf_4 0 ki_0 ?_
  refine kv_istore_n (ls2 := [_, _, _, _, _, _]) dX8_ringOf_5 rfl rfl rfl rfl ?_
  refine kv_iconst dX8_ringOf_6 0 ki_0 ?_
  refine kv_istore (ls2 := [_, _, _, _, _, _]) dX8_ringOf_7 rfl rfl rfl rfl ?_
  refine KV.loc (ls2 := [some (.ref 394), some (.int (nI c)), some (.int (nI (kRgA (kTt g (kN g 2)) (kN g 2) (2 ^ c) (0)))), some (.int (nI (kWs (kTt g (kN g 2)) (kN g 2) (2 ^ c) (0)))), some (.int (nI (0))), none]) ?_ (ksS rfl (ksS rfl (ksS rfl (ksS rfl (ksS rfl (ks0 ksN))))))
  refine kn_loop (P := fun k => KV w l mX8_ringOf 0 0 0 9 [some (.ref 394), some (.int (nI c)), some (.int (nI (kRgA (kTt g (kN g 2)) (kN g 2) (2 ^ c) (k)))), some (.int (nI (kWs (kTt g (kN g 2)) (kN g 2) (2 ^ c) (k)))), some (.int (nI (k))), none] [] u (kq (some (.int (nI (kRg (kTt g (kN g 2)) (kN g 2) c)))) u)) (20) ?_ (fun k hk ih => ?_)
  · refine kv_iload dX8_ringOf_9 rfl ?_
    refine kv_bipush dX8_ringOf_11 20 kb_20 ?_
    refine kv_icmp_ge dX8_ringOf_13 69 (by decide) (fun h1 => ?_) (fun h1 => ?_)
    · refine kv_iload_n dX8_ringOf_69 rfl ?_
      exact kv_iret dX8_ringOf_70 rfl (by first | exact ⟨congrArg (fun z => some (Value.int (nI z))) hA, rfl⟩ | exact ⟨rfl, rfl⟩)
    · exact absurd (Int32.le_refl (nI 20)) h1
  · have ihk := ih
    refine kv_iload dX8_ringOf_9 rfl ?_
    refine kv_bipush dX8_ringOf_11 20 kb_20 ?_
    refine kv_icmp_ge dX8_ringOf_13 69 (by decide) (fun h2 => ?_) (fun h2 => ?_)
    · exact absurd h2 (kn_ge (n := 20) hk (by omega))
    · refine kv_iload_n dX8_ringOf_16 rfl ?_
      refine kv_iload_n dX8_ringOf_17 rfl ?_
      refine kv_icmp_eq dX8_ringOf_18 69 (by decide) (fun h3 => ?_) (fun h3 => ?_)
      · have hf : (kRgA (kTt g (kN g 2)) (kN g 2) (2 ^ c) k) = (kWs (kTt g (kN g 2)) (kN g 2) (2 ^ c) k) := (nI_eq (by have := hRb k; omega) (by have := hWb k; omega)).mp h3
        have hA := kWs_eq (by omega) hf
        refine kv_iload_n dX8_ringOf_69 rfl ?_
        exact kv_iret dX8_ringOf_70 rfl (by first | exact ⟨congrArg (fun z => some (Value.int (nI z))) hA, rfl⟩ | exact ⟨rfl, rfl⟩)
      · refine kv_iload_n dX8_ringOf_21 rfl ?_
        refine kv_istore_n (ls2 := [_, _, _, _, _, _]) dX8_ringOf_22 rfl rfl rfl rfl ?_
        refine kv_iconst dX8_ringOf_23 0 ki_0 ?_
        refine kv_istore (ls2 := [_, _, _, _, _, _]) dX8_ringOf_24 rfl rfl rfl rfl ?_
        refine KV.loc (ls2 := [some (.ref 394), some (.int (nI c)), some (.int (nI (kPsA (kTt g (kN g 2)) (kRgA (kTt g (kN g 2)) (kN g 2) (2 ^ c) k) (0)))), some (.int (nI (kRgA (kTt g (kN g 2)) (kN g 2) (2 ^ c) k))), some (.int (nI k)), some (.int (nI (0)))]) ?_ (ksS rfl (ksS rfl (ksS rfl (ksS rfl (ksS rfl (ksS rfl ksN))))))
        refine kn_loop (P := fun j => KV w l mX8_ringOf 0 0 0 26 [some (.ref 394), some (.int (nI c)), some (.int (nI (kPsA (kTt g (kN g 2)) (kRgA (kTt g (kN g 2)) (kN g 2) (2 ^ c) k) (j)))), some (.int (nI (kRgA (kTt g (kN g 2)) (kN g 2) (2 ^ c) k))), some (.int (nI k)), some (.int (nI (j)))] [] u (kq (some (.int (nI (kRg (kTt g (kN g 2)) (kN g 2) c)))) u)) (kN g 2) ?_ (fun j hj ih => ?_)
        · refine kv_iload dX8_ringOf_26 rfl ?_
          refine kv_aload_n dX8_ringOf_28 rfl ?_
          refine kw_gR dX8_ringOf_29 fX8_18 hu (by first | rfl | assumption) rfl rfl (by first | rfl | assumption) ?_
          refine kw_gI dX8_ringOf_32 fX8_58 hu (by first | rfl | assumption) rfl rfl ?_
          rw [hr.n2, hw.1]
          refine kv_icmp_ge dX8_ringOf_35 63 (by decide) (fun h4 => ?_) (fun h4 => ?_)
          · refine kv_iinc (ls2 := [_, _, _, _, _, _]) dX8_ringOf_63 (nI (k + 1)) rfl (kv_inc1 k) rfl rfl rfl rfl ?_
            refine kv_goto dX8_ringOf_66 9 (by decide) ?_
            exact KV.loc ihk (ksS rfl (ksS rfl (ksS rfl (ksS rfl (ksS rfl (ks0 ksN))))))
          · exact absurd h4 (fun q => q (Int32.le_refl _))
        · have hpb := kPsA_b (hRb k) hTl j (by omega)
          refine kv_iload dX8_ringOf_26 rfl ?_
          refine kv_aload_n dX8_ringOf_28 rfl ?_
          refine kw_gR dX8_ringOf_29 fX8_18 hu (by first | rfl | assumption) rfl rfl (by first | rfl | assumption) ?_
          refine kw_gI dX8_ringOf_32 fX8_58 hu (by first | rfl | assumption) rfl rfl ?_
          rw [hr.n2, hw.1]
          refine kv_icmp_ge dX8_ringOf_35 63 (by decide) (fun h5 => ?_) (fun h5 => ?_)
          · exact absurd h5 (kn_ge hj (by omega))
          · refine kv_iload_n dX8_ringOf_38 rfl ?_
            refine kv_iload dX8_ringOf_39 rfl ?_
            refine kv_ishr dX8_ringOf_41 ?_
            refine kv_iconst dX8_ringOf_42 1 ki_1 ?_
            refine kv_iand dX8_ringOf_43 ?_
            refine kv_if_eq dX8_ringOf_44 57 (by decide) (fun h6 => ?_) (fun h6 => ?_)
            · have hb := (kBit0 (by omega)).mp h6
              refine kv_iinc (ls2 := [_, _, _, _, _, _]) dX8_ringOf_57 (nI (j + 1)) rfl (kv_inc1 j) rfl rfl rfl rfl ?_
              refine kv_goto dX8_ringOf_60 26 (by decide) ?_
              exact KV.loc ih (ksS (by first | rfl | exact congrArg (fun z => some (Value.int (nI z))) (kPsA_n hb).symm | exact congrArg (fun z => some (Value.int z)) ((kn_or _ _).trans (congrArg nI (kPsA_y hb).symm))) (ksS (by first | rfl | exact congrArg (fun z => some (Value.int (nI z))) (kPsA_n hb).symm | exact congrArg (fun z => some (Value.int z)) ((kn_or _ _).trans (congrArg nI (kPsA_y hb).symm))) (ksS (by first | rfl | exact congrArg (fun z => some (Value.int (nI z))) (kPsA_n hb).symm | exact congrArg (fun z => some (Value.int z)) ((kn_or _ _).trans (congrArg nI (kPsA_y hb).symm))) (ksS (by first | rfl | exact congrArg (fun z => some (Value.int (nI z))) (kPsA_n hb).symm | exact congrArg (fun z => some (Value.int z)) ((kn_or _ _).trans (congrArg nI (kPsA_y hb).symm))) (ksS (by first | rfl | exact congrArg (fun z => some (Value.int (nI z))) (kPsA_n hb).symm | exact congrArg (fun z => some (Value.int z)) ((kn_or _ _).trans (congrArg nI (kPsA_y hb).symm))) (ksS (by first | rfl | exact congrArg (fun z => some (Value.int (nI z))) (kPsA_n hb).symm | exact congrArg (fun z => some (Value.int z)) ((kn_or _ _).trans (congrArg nI (kPsA_y hb).symm))) ksN))))))
            · have hb : (kPsA (kTt g (kN g 2)) (kRgA (kTt g (kN g 2)) (kN g 2) (2 ^ c) k) j >>> j) % 2 = 1 := Classical.byContradiction fun q => h6 ((kBit0 (by omega)).mpr q)
              refine kv_iload_n dX8_ringOf_47 rfl ?_
              refine kv_aload_n dX8_ringOf_48 rfl ?_
              refine kw_gR dX8_ringOf_49 fX8_15 hu (by first | rfl | assumption) rfl rfl (by first | rfl | assumption) ?_
              refine kv_iload dX8_ringOf_52 rfl ?_
              refine kw_il dX8_ringOf_54 hu (by first | rfl | assumption) (j) rfl (by omega) rfl ?_
              rw [hT j hj]
              refine kv_ior dX8_ringOf_55 ?_
              refine kv_istore_n (ls2 := [_, _, _, _, _, _]) dX8_ringOf_56 rfl rfl rfl rfl ?_
              refine kv_iinc (ls2 := [_, _, _, _, _, _]) dX8_ringOf_57 (nI (j + 1)) rfl (kv_inc1 j) rfl rfl rfl rfl ?_
              refine kv_goto dX8_ringOf_60 26 (by decide) ?_
              exact KV.loc ih (ksS (by first | rfl | exact congrArg (fun z => some (Value.int (nI z))) (kPsA_n hb).symm | exact congrArg (fun z => some (Value.int z)) ((kn_or _ _).trans (congrArg nI (kPsA_y hb).symm))) (ksS (by first | rfl | exact congrArg (fun z => some (Value.int (nI z))) (kPsA_n hb).symm | exact congrArg (fun z => some (Value.int z)) ((kn_or _ _).trans (congrArg nI (kPsA_y hb).symm))) (ksS (by first | rfl | exact congrArg (fun z => some (Value.int (nI z))) (kPsA_n hb).symm | exact congrArg (fun z => some (Value.int z)) ((kn_or _ _).trans (congrArg nI (kPsA_y hb).symm))) (ksS (by first | rfl | exact congrArg (fun z => some (Value.int (nI z))) (kPsA_n hb).symm | exact congrArg (fun z => some (Value.int z)) ((kn_or _ _).trans (congrArg nI (kPsA_y hb).symm))) (ksS (by first | rfl | exact congrArg (fun z => some (Value.int (nI z))) (kPsA_n hb).symm | exact congrArg (fun z => some (Value.int z)) ((kn_or _ _).trans (congrArg nI (kPsA_y hb).symm))) (ksS (by first | rfl | exact congrArg (fun z => some (Value.int (nI z))) (kPsA_n hb).symm | exact congrArg (fun z => some (Value.int z)) ((kn_or _ _).trans (congrArg nI (kPsA_y hb).symm))) ksN))))))

set_option maxRecDepth 20000 in
set_option maxHeartbeats 4000000 in
theorem qX12_ringOf {w : KW} {l : Launch} {u : KMem} (hu : kWd u) {g : Nat → Int32} (eg : u.2.1 414 = g) (hg : kGI g) (hT : ∀ c, c < kN g 2 → u.2.1 425 c = nI (kTt g (kN g 2) c)) (c : Nat) (hc : c < kN g 2) : KC w l mX12_ringOf 1 0 0 [.ref 413, .int (nI c)] u (kq (some (.int (nI (kRg (kTt g (kN g 2)) (kN g 2) c)))) u) := by
  have hx20 := (hg.cnt (k := 2) rfl).2
  have hw := hg.cnt (k := 2) rfl
  have hTl : ∀ i, i < kN g 2 → (kTt g (kN g 2)) i < 2 ^ 20 := fun i _ => kTt_lt (by omega) i
  have hcp := kCt_pow c (by omega)
  have hRb := fun k => kRgA_b (n := kN g 2) hcp.2 hTl k
  have hWb := fun k => kWs_b (n := kN g 2) hcp.2 hTl k
  refine KC.of (ls := [_, _, _, _, _]) rfl rfl (Nat.le_of_ble_eq_true rfl) ?_
  refine kv_iconst dX12_ringOf_0 1 ki_1 ?_
  refine kv_iload_n dX12_ringOf_1 rfl ?_
  refine kv_ishl dX12_ringOf_2 ?_
  rw [kn_pow c (by omega)]
  refine kv_istore_n (ls2 := [_, _, _, _, _]) dX12_ringOf_3 rfl rfl rfl rfl ?_
  refine kv_iconst dX12_ringOf_4 0 ki_0 ?_
  refine kv_istore_n (ls2 := [_, _, _, _, _]) dX12_ringOf_5 rfl rfl rfl rfl ?_
  refine KV.loc (ls2 := [some (.ref 413), some (.int (nI c)), some (.int (nI (kRgA (kTt g (kN g 2)) (kN g 2) (2 ^ c) (0)))), some (.int (nI (kWs (kTt g (kN g 2)) (kN g 2) (2 ^ c) (0)))), none]) ?_ (ksS rfl (ksS rfl (ksS rfl (ksS rfl (ks0 ksN)))))
  refine kn_loop (P := fun k => KV w l mX12_ringOf 1 0 0 6 [some (.ref 413), some (.int (nI c)), some (.int (nI (kRgA (kTt g (kN g 2)) (kN g 2) (2 ^ c) (k)))), some (.int (nI (kWs (kTt g (kN g 2)) (kN g 2) (2 ^ c) (k)))), none] [] u (kq (some (.int (nI (kRg (kTt g (kN g 2)) (kN g 2) c)))) u)) (20) ?_ (fun k hk ih => ?_)
  · refine kv_iload_n dX12_ringOf_6 rfl ?_
    refine kv_iload_n dX12_ringOf_7 rfl ?_
    refine kv_icmp_eq dX12_ringOf_8 59 (by decide) (fun h1 => ?_) (fun h1 => ?_)
    · refine kv_iload_n dX12_ringOf_59 rfl ?_
      exact kv_iret dX12_ringOf_60 rfl (by first | exact ⟨congrArg (fun z => some (Value.int (nI z))) hA, rfl⟩ | exact ⟨rfl, rfl⟩)
    · exact absurd (congrArg nI (kRgA_20 hcp.2 hTl hcp.1)) h1
  · have ihk := ih
    refine kv_iload_n dX12_ringOf_6 rfl ?_
    refine kv_iload_n dX12_ringOf_7 rfl ?_
    refine kv_icmp_eq dX12_ringOf_8 59 (by decide) (fun h2 => ?_) (fun h2 => ?_)
    · have hf : (kRgA (kTt g (kN g 2)) (kN g 2) (2 ^ c) k) = (kWs (kTt g (kN g 2)) (kN g 2) (2 ^ c) k) := (nI_eq (by have := hRb k; omega) (by have := hWb k; omega)).mp h2
      have hA := kWs_eq (by omega) hf
      refine kv_iload_n dX12_ringOf_59 rfl ?_
      exact kv_iret dX12_ringOf_60 rfl (by first | exact ⟨congrArg (fun z => some (Value.int (nI z))) hA, rfl⟩ | exact ⟨rfl, rfl⟩)
    · refine kv_iload_n dX12_ringOf_11 rfl ?_
      refine kv_istore_n (ls2 := [_, _, _, _, _]) dX12_ringOf_12 rfl rfl rfl rfl ?_
      refine kv_iconst dX12_ringOf_13 0 ki_0 ?_
      refine kv_istore (ls2 := [_, _, _, _, _]) dX12_ringOf_14 rfl rfl rfl rfl ?_
      refine KV.loc (ls2 := [some (.ref 413), some (.int (nI c)), some (.int (nI (kPsA (kTt g (kN g 2)) (kRgA (kTt g (kN g 2)) (kN g 2) (2 ^ c) k) (0)))), some (.int (nI (kRgA (kTt g (kN g 2)) (kN g 2) (2 ^ c) k))), some (.int (nI (0)))]) ?_ (ksS rfl (ksS rfl (ksS rfl (ksS rfl (ksS rfl ksN)))))
      refine kn_loop (P := fun j => KV w l mX12_ringOf 1 0 0 16 [some (.ref 413), some (.int (nI c)), some (.int (nI (kPsA (kTt g (kN g 2)) (kRgA (kTt g (kN g 2)) (kN g 2) (2 ^ c) k) (j)))), some (.int (nI (kRgA (kTt g (kN g 2)) (kN g 2) (2 ^ c) k))), some (.int (nI (j)))] [] u (kq (some (.int (nI (kRg (kTt g (kN g 2)) (kN g 2) c)))) u)) (kN g 2) ?_ (fun j hj ih => ?_)
      · refine kv_iload dX12_ringOf_16 rfl ?_
        refine kv_aload_n dX12_ringOf_18 rfl ?_
        refine kw_gR dX12_ringOf_19 fX12_9 hu (by first | rfl | assumption) rfl rfl (by first | rfl | assumption) ?_
        refine kv_iconst dX12_ringOf_22 2 ki_2 ?_
        refine kw_ig dX12_ringOf_23 hu eg rfl (_) (show (2 : Int32) = nI 2 from rfl) (by omega) rfl ?_
        rw [hw.1]
        refine kv_icmp_ge dX12_ringOf_24 56 (by decide) (fun h3 => ?_) (fun h3 => ?_)
        · refine kv_goto dX12_ringOf_56 6 (by decide) ?_
          exact KV.loc ihk (ksS rfl (ksS rfl (ksS rfl (ksS rfl (ks0 ksN)))))
        · exact absurd h3 (fun q => q (Int32.le_refl _))
      · have hpb := kPsA_b (hRb k) hTl j (by omega)
        refine kv_iload dX12_ringOf_16 rfl ?_
        refine kv_aload_n dX12_ringOf_18 rfl ?_
        refine kw_gR dX12_ringOf_19 fX12_9 hu (by first | rfl | assumption) rfl rfl (by first | rfl | assumption) ?_
        refine kv_iconst dX12_ringOf_22 2 ki_2 ?_
        refine kw_ig dX12_ringOf_23 hu eg rfl (_) (show (2 : Int32) = nI 2 from rfl) (by omega) rfl ?_
        rw [hw.1]
        refine kv_icmp_ge dX12_ringOf_24 56 (by decide) (fun h4 => ?_) (fun h4 => ?_)
        · exact absurd h4 (kn_ge hj (by omega))
        · refine kv_iload_n dX12_ringOf_27 rfl ?_
          refine kv_iload_n dX12_ringOf_28 rfl ?_
          refine kv_iload dX12_ringOf_29 rfl ?_
          refine kw_Si [_, _] mX12_has dX12_ringOf_31 lX12_128 wX12_has rfl rfl rfl (qX12_has (by exact hu) _ _) (by decide) ?_
          refine kw_beq dX12_ringOf_34 47 (by decide) (fun h5 => ?_) (fun h5 => ?_)
          · have hb : ¬ (kPsA (kTt g (kN g 2)) (kRgA (kTt g (kN g 2)) (kN g 2) (2 ^ c) k) j >>> j) % 2 = 1 := fun q => h5 ((kHas_ct (by omega)).mpr q)
            refine kv_iconst dX12_ringOf_47 0 ki_0 ?_
            refine kv_ior dX12_ringOf_48 ?_
            refine kv_istore_n (ls2 := [_, _, _, _, _]) dX12_ringOf_49 rfl rfl rfl rfl ?_
            refine kv_iinc (ls2 := [_, _, _, _, _]) dX12_ringOf_50 (nI (j + 1)) rfl (kv_inc1 j) rfl rfl rfl rfl ?_
            refine kv_goto dX12_ringOf_53 16 (by decide) ?_
            exact KV.loc ih (ksS (by first | rfl | exact congrArg (fun z => some (Value.int z)) ((kn_or _ 0).trans (congrArg nI ((Nat.or_zero _).trans (kPsA_n hb).symm))) | exact congrArg (fun z => some (Value.int z)) ((kn_or _ _).trans (congrArg nI (kPsA_y hb).symm))) (ksS (by first | rfl | exact congrArg (fun z => some (Value.int z)) ((kn_or _ 0).trans (congrArg nI ((Nat.or_zero _).trans (kPsA_n hb).symm))) | exact congrArg (fun z => some (Value.int z)) ((kn_or _ _).trans (congrArg nI (kPsA_y hb).symm))) (ksS (by first | rfl | exact congrArg (fun z => some (Value.int z)) ((kn_or _ 0).trans (congrArg nI ((Nat.or_zero _).trans (kPsA_n hb).symm))) | exact congrArg (fun z => some (Value.int z)) ((kn_or _ _).trans (congrArg nI (kPsA_y hb).symm))) (ksS (by first | rfl | exact congrArg (fun z => some (Value.int z)) ((kn_or _ 0).trans (congrArg nI ((Nat.or_zero _).trans (kPsA_n hb).symm))) | exact congrArg (fun z => some (Value.int z)) ((kn_or _ _).trans (congrArg nI (kPsA_y hb).symm))) (ksS (by first | rfl | exact congrArg (fun z => some (Value.int z)) ((kn_or _ 0).trans (congrArg nI ((Nat.or_zero _).trans (kPsA_n hb).symm))) | exact congrArg (fun z => some (Value.int z)) ((kn_or _ _).trans (congrArg nI (kPsA_y hb).symm))) ksN)))))
          · have hb := (kHas_ct (by omega)).mp h5
            refine kv_aload_n dX12_ringOf_37 rfl ?_
            refine kw_gR dX12_ringOf_38 fX12_53 hu (by first | rfl | assumption) rfl rfl (by first | rfl | assumption) ?_
            refine kv_iload dX12_ringOf_41 rfl ?_
            refine kw_il dX12_ringOf_43 hu (by first | rfl | assumption) (j) rfl (by omega) rfl ?_
            rw [hT j hj]
            refine kv_goto dX12_ringOf_44 48 (by decide) ?_
            refine kv_ior dX12_ringOf_48 ?_
            refine kv_istore_n (ls2 := [_, _, _, _, _]) dX12_ringOf_49 rfl rfl rfl rfl ?_
            refine kv_iinc (ls2 := [_, _, _, _, _]) dX12_ringOf_50 (nI (j + 1)) rfl (kv_inc1 j) rfl rfl rfl rfl ?_
            refine kv_goto dX12_ringOf_53 16 (by decide) ?_
            exact KV.loc ih (ksS (by first | rfl | exact congrArg (fun z => some (Value.int z)) ((kn_or _ 0).trans (congrArg nI ((Nat.or_zero _).trans (kPsA_n hb).symm))) | exact congrArg (fun z => some (Value.int z)) ((kn_or _ _).trans (congrArg nI (kPsA_y hb).symm))) (ksS (by first | rfl | exact congrArg (fun z => some (Value.int z)) ((kn_or _ 0).trans (congrArg nI ((Nat.or_zero _).trans (kPsA_n hb).symm))) | exact congrArg (fun z => some (Value.int z)) ((kn_or _ _).trans (congrArg nI (kPsA_y hb).symm))) (ksS (by first | rfl | exact congrArg (fun z => some (Value.int z)) ((kn_or _ 0).trans (congrArg nI ((Nat.or_zero _).trans (kPsA_n hb).symm))) | exact congrArg (fun z => some (Value.int z)) ((kn_or _ _).trans (congrArg nI (kPsA_y hb).symm))) (ksS (by first | rfl | exact congrArg (fun z => some (Value.int z)) ((kn_or _ 0).trans (congrArg nI ((Nat.or_zero _).trans (kPsA_n hb).symm))) | exact congrArg (fun z => some (Value.int z)) ((kn_or _ _).trans (congrArg nI (kPsA_y hb).symm))) (ksS (by first | rfl | exact congrArg (fun z => some (Value.int z)) ((kn_or _ 0).trans (congrArg nI ((Nat.or_zero _).trans (kPsA_n hb).symm))) | exact congrArg (fun z => some (Value.int z)) ((kn_or _ _).trans (congrArg nI (kPsA_y hb).symm))) ksN)))))

set_option maxRecDepth 20000 in
set_option maxHeartbeats 4000000 in
theorem qX11_ring {w : KW} {l : Launch} {u : KMem} (hu : kWd u) {a : KA} (hx : kRX a u) (ho : kOk a) (p0 : Int32) : KC w l mX11_ring 3 0 0 [.ref 0, .int p0] u (kOX u (kring a p0).1 (kring a p0).2) := by
  have hr := hx.1
  have hg := ho.1
  have hx20 := (hg.cnt (k := 2) rfl).2
  have hc30 := (hg.cnt (k := 0) rfl).2
  have ht10 := (hg.cnt (k := 3) rfl).2
  have he40 := (hg.cnt (k := 4) rfl).2
  have hs16 := hg.cnt (k := 1) rfl
  refine KC.of (ls := [_, _]) rfl rfl (Nat.le_of_ble_eq_true rfl) ?_
  refine kv_aload_n dX11_ring_0 rfl ?_
  refine kv_iload_n dX11_ring_1 rfl ?_
  refine kw_Vi [_] mX11_noCrash dX11_ring_2 lX11_151 wX11_noCrash kC11 hu rfl (by first | rfl | assumption) rfl rfl rfl (qX11_noCrash (by exact hu) _) (by decide) ?_
  refine kw_beq dX11_ring_5 15 (by decide) (fun h1 => ?_) (fun h1 => ?_)
  · rw [hr.n2] at h1
    have n1 : ¬ kOut p0 0 (a 0 2 - 1) := h1
    have hS : kring a p0 = _ := if_neg n1
    obtain ⟨x, hx2, rfl⟩ := hg.at (k := 2) rfl n1
    rw [nI_clamp (by omega)] at hS
    refine kv_aload_n dX11_ring_15 rfl ?_
    refine kw_gR dX11_ring_16 fX11_47 hu (by first | rfl | assumption) rfl rfl (by first | rfl | assumption) ?_
    refine kw_VQ [] mX8_tieAll dX11_ring_19 lX11_347 wX8_tieAll kC8 hu rfl (by first | rfl | assumption) rfl rfl rfl (qX8_tieAll hu hr hg) (by decide) (fun _ v1 q1 => ?_)
    obtain ⟨rfl, e0, hT⟩ := q1
    have e1 : kEq kSX u v1 := e0.wk (fun a k q => Or.inl (by unfold kS96 at q; omega))
    have hr1 := hr.eqX hg e1
    have hu1 := e1.wd hu
    have E1 := e1
    refine kv_aload_n dX11_ring_22 rfl ?_
    refine kw_gR dX11_ring_23 fX11_47 hu1 (by first | rfl | assumption) rfl rfl (by first | rfl | assumption) ?_
    refine kv_iload_n dX11_ring_26 rfl ?_
    refine kw_Vi [_] mX8_ringOf dX11_ring_27 lX11_350 wX8_ringOf kC8 hu1 rfl (by first | rfl | assumption) rfl rfl rfl (qX8_ringOf hu1 hr1 hg hT x hx2) (by decide) ?_
    exact kv_iret dX11_ring_30 rfl (by rw [hS]; exact kOX.id hx ho hu E1 rfl)
  · rw [hr.n2] at h1
    have hS : kring a p0 = (-1000001, kF a 1) := if_pos h1
    refine kv_aload_n dX11_ring_8 rfl ?_
    refine kv_ldc dX11_ring_9 kX11_74 ?_
    refine kw_Vi [_] mX11_refuse dX11_ring_11 lX11_75 wX11_refuse kC11 hu rfl (by first | rfl | assumption) rfl rfl rfl (qX11_refuse (by exact hu) 1 (by decide) (by decide) _ (by decide)) (by decide) ?_
    exact kv_iret dX11_ring_14 rfl (by rw [hS]; exact kOX.no hx ho hu (by decide) rfl)

set_option maxRecDepth 20000 in
set_option maxHeartbeats 4000000 in
theorem qX12_ring {w : KW} {l : Launch} {u : KMem} (hu : kWd u) {a : KA} (hm : kRM a u) (ho : kOk a) (p0 : Int32) : KC w l mX12_ring 4 0 0 [.ref 413, .int p0] u (kOM u (kring a p0).1 (kring a p0).2) := by
  have eg := hm.1
  have hg := ho.1
  have hx20 := (hg.cnt (k := 2) rfl).2
  have hc30 := (hg.cnt (k := 0) rfl).2
  have ht10 := (hg.cnt (k := 3) rfl).2
  have he40 := (hg.cnt (k := 4) rfl).2
  have hs16 := hg.cnt (k := 1) rfl
  refine KC.of (ls := [_, _]) rfl rfl (Nat.le_of_ble_eq_true rfl) ?_
  refine kv_aload_n dX12_ring_0 rfl ?_
  refine kv_iload_n dX12_ring_1 rfl ?_
  refine kv_iconst dX12_ring_2 2 ki_2 ?_
  refine kw_Vi [_, _] mX12_is dX12_ring_3 lX12_93 wX12_is kC12 hu rfl (by first | rfl | assumption) rfl rfl rfl (gX12_is hu eg _ 2 (by omega)) (by decide) ?_
  refine kw_bne dX12_ring_6 16 (by decide) (fun h1 => ?_) (fun h1 => ?_)
  · have n1 : ¬ kOut p0 0 (a 0 2 - 1) := kIn_y h1
    have hS : kring a p0 = _ := if_neg n1
    obtain ⟨x, hx2, rfl⟩ := hg.at (k := 2) rfl n1
    rw [nI_clamp (by omega)] at hS
    refine kv_aload_n dX12_ring_16 rfl ?_
    refine kw_VQ [] mX12_findTies dX12_ring_17 lX12_336 wX12_findTies kC12 hu rfl (by first | rfl | assumption) rfl rfl rfl (qX12_findTies hu eg hg) (by decide) (fun _ v1 q1 => ?_)
    obtain ⟨rfl, e0, hT⟩ := q1
    have e1 : kEq kSM u v1 := e0.wk (fun a k q => Or.inl (by unfold kS25 at q; omega))
    have hu1 := e1.wd hu
    have E1 := e1
    have eg1 : v1.2.1 414 = a 0 := (E1.row kSM_now).trans eg
    refine kv_aload_n dX12_ring_20 rfl ?_
    refine kv_iload_n dX12_ring_21 rfl ?_
    refine kw_Vi [_] mX12_ringOf dX12_ring_22 lX12_339 wX12_ringOf kC12 hu1 rfl (by first | rfl | assumption) rfl rfl rfl (qX12_ringOf hu1 eg1 hg hT x hx2) (by decide) ?_
    exact kv_iret dX12_ring_25 rfl (by rw [hS]; exact kOM.id hm hu E1 rfl)
  · have hS : kring a p0 = (-1000001, kF a 1) := if_pos (kIn_n h1)
    refine kv_aload_n dX12_ring_9 rfl ?_
    refine kv_ldc dX12_ring_10 kX12_83 ?_
    refine kw_Vi [_] mX12_finding dX12_ring_12 lX12_84 wX12_finding kC12 hu rfl (by first | rfl | assumption) rfl rfl rfl (qX12_finding (by exact hu) 1 (by decide) (by decide) _ (by decide)) (by decide) ?_
    exact kv_iret dX12_ring_15 rfl (by rw [hS]; exact kOM.no hm hu rfl)

set_option maxRecDepth 20000 in
set_option maxHeartbeats 4000000 in
theorem qX8_ringsFrom {w : KW} {l : Launch} {u : KMem} (hu : kWd u) {g : Nat → Int32} (hr : kRS 1 g u) (hg : kGI g) (hT : ∀ c, c < kN g 2 → u.2.1 396 c = nI (kTt g (kN g 2) c)) (s : Nat) (hs : s ≤ 20) : KC w l mX8_ringsFrom 1 0 0 [.ref 394, .int (nI s)] u (kq (some (.int (nI (kRc (kTt g (kN g 2)) (kN g 2) s (kN g 2))))) u) := by
  have hx20 := (hg.cnt (k := 2) rfl).2
  have hw := hg.cnt (k := 2) rfl
  have hTl : ∀ i, i < kN g 2 → (kTt g (kN g 2)) i < 2 ^ 20 := fun i _ => kTt_lt (by omega) i
  refine KC.of (ls := [_, _, _, _, _, _]) rfl rfl (Nat.le_of_ble_eq_true rfl) ?_
  refine kv_iconst dX8_ringsFrom_0 0 ki_0 ?_
  refine kv_istore_n (ls2 := [_, _, _, _, _, _]) dX8_ringsFrom_1 rfl rfl rfl rfl ?_
  refine kv_iconst dX8_ringsFrom_2 0 ki_0 ?_
  refine kv_istore_n (ls2 := [_, _, _, _, _, _]) dX8_ringsFrom_3 rfl rfl rfl rfl ?_
  refine kv_iconst dX8_ringsFrom_4 0 ki_0 ?_
  refine kv_istore (ls2 := [_, _, _, _, _, _]) dX8_ringsFrom_5 rfl rfl rfl rfl ?_
  refine KV.loc (ls2 := [some (.ref 394), some (.int (nI s)), some (.int (nI (kSnA (kTt g (kN g 2)) (kN g 2) (0)))), some (.int (nI (kRc (kTt g (kN g 2)) (kN g 2) s (0)))), some (.int (nI (0))), none]) ?_ (ksS (by first | rfl | exact congrArg (fun z => some (Value.int (nI z))) hs2.symm | exact congrArg (fun z => some (Value.int z)) (kn_or _ _) | exact congrArg (fun z => some (Value.int z)) ((kv_inc1 _).trans (congrArg nI (by rw [e1, if_pos hq]))) | exact congrArg (fun z => some (Value.int (nI z))) (by rw [e1, if_neg hq, Nat.add_zero])) (ksS (by first | rfl | exact congrArg (fun z => some (Value.int (nI z))) hs2.symm | exact congrArg (fun z => some (Value.int z)) (kn_or _ _) | exact congrArg (fun z => some (Value.int z)) ((kv_inc1 _).trans (congrArg nI (by rw [e1, if_pos hq]))) | exact congrArg (fun z => some (Value.int (nI z))) (by rw [e1, if_neg hq, Nat.add_zero])) (ksS (by first | rfl | exact congrArg (fun z => some (Value.int (nI z))) hs2.symm | exact congrArg (fun z => some (Value.int z)) (kn_or _ _) | exact congrArg (fun z => some (Value.int z)) ((kv_inc1 _).trans (congrArg nI (by rw [e1, if_pos hq]))) | exact congrArg (fun z => some (Value.int (nI z))) (by rw [e1, if_neg hq, Nat.add_zero])) (ksS (by first | rfl | exact congrArg (fun z => some (Value.int (nI z))) hs2.symm | exact congrArg (fun z => some (Value.int z)) (kn_or _ _) | exact congrArg (fun z => some (Value.int z)) ((kv_inc1 _).trans (congrArg nI (by rw [e1, if_pos hq]))) | exact congrArg (fun z => some (Value.int (nI z))) (by rw [e1, if_neg hq, Nat.add_zero])) (ksS (by first | rfl | exact congrArg (fun z => some (Value.int (nI z))) hs2.symm | exact congrArg (fun z => some (Value.int z)) (kn_or _ _) | exact congrArg (fun z => some (Value.int z)) ((kv_inc1 _).trans (congrArg nI (by rw [e1, if_pos hq]))) | exact congrArg (fun z => some (Value.int (nI z))) (by rw [e1, if_neg hq, Nat.add_zero])) (ks0 ksN))))))
  refine kn_loop (P := fun i => KV w l mX8_ringsFrom 1 0 0 7 [some (.ref 394), some (.int (nI s)), some (.int (nI (kSnA (kTt g (kN g 2)) (kN g 2) (i)))), some (.int (nI (kRc (kTt g (kN g 2)) (kN g 2) s (i)))), some (.int (nI (i))), none] [] u (kq (some (.int (nI (kRc (kTt g (kN g 2)) (kN g 2) s (kN g 2))))) u)) (kN g 2) ?_ (fun i hi ih => ?_)
  · refine kv_iload dX8_ringsFrom_7 rfl ?_
    refine kv_aload_n dX8_ringsFrom_9 rfl ?_
    refine kw_gR dX8_ringsFrom_10 fX8_18 hu (by first | rfl | assumption) rfl rfl (by first | rfl | assumption) ?_
    refine kw_gI dX8_ringsFrom_13 fX8_58 hu (by first | rfl | assumption) rfl rfl ?_
    rw [hr.n2, hw.1]
    refine kv_icmp_ge dX8_ringsFrom_16 59 (by decide) (fun h1 => ?_) (fun h1 => ?_)
    · refine kv_iload_n dX8_ringsFrom_59 rfl ?_
      exact kv_iret dX8_ringsFrom_60 rfl ⟨rfl, rfl⟩
    · exact absurd h1 (fun q => q (Int32.le_refl _))
  · have e1 : (kRc (kTt g (kN g 2)) (kN g 2) s (i + 1)) = (kRc (kTt g (kN g 2)) (kN g 2) s i) + (if ¬ ((kSnA (kTt g (kN g 2)) (kN g 2) i) >>> i) % 2 = 1 ∧ s ≤ kCt (kRg (kTt g (kN g 2)) (kN g 2) i) 24 then 1 else 0) := rfl
    have hrb := kRgA_b (n := kN g 2) (kCt_pow i (by omega)).2 hTl 20
    have hcb := kCt_b (kRg (kTt g (kN g 2)) (kN g 2) i) 24
    have bc : kBC (nI (kRg (kTt g (kN g 2)) (kN g 2) i)) = nI (kCt (kRg (kTt g (kN g 2)) (kN g 2) i) 24) := by
      have hz : kRg (kTt g (kN g 2)) (kN g 2) i < 2 ^ 20 := hrb
      rw [kBC_e (by omega), kBits_ct 24 (by omega)]
    refine kv_iload dX8_ringsFrom_7 rfl ?_
    refine kv_aload_n dX8_ringsFrom_9 rfl ?_
    refine kw_gR dX8_ringsFrom_10 fX8_18 hu (by first | rfl | assumption) rfl rfl (by first | rfl | assumption) ?_
    refine kw_gI dX8_ringsFrom_13 fX8_58 hu (by first | rfl | assumption) rfl rfl ?_
    rw [hr.n2, hw.1]
    refine kv_icmp_ge dX8_ringsFrom_16 59 (by decide) (fun h2 => ?_) (fun h2 => ?_)
    · exact absurd h2 (kn_ge hi (by omega))
    · refine kv_iload_n dX8_ringsFrom_19 rfl ?_
      refine kv_iload dX8_ringsFrom_20 rfl ?_
      refine kv_ishr dX8_ringsFrom_22 ?_
      refine kv_iconst dX8_ringsFrom_23 1 ki_1 ?_
      refine kv_iand dX8_ringsFrom_24 ?_
      refine kv_if_ne dX8_ringsFrom_25 53 (by decide) (fun h3 => ?_) (fun h3 => ?_)
      · have hb : ((kSnA (kTt g (kN g 2)) (kN g 2) i) >>> i) % 2 = 1 := Classical.byContradiction fun q => h3 ((kBit0 (by omega)).mpr q)
        have hs2 := kSnA_s (by omega) hTl hi hb
        have hq : ¬ (¬ ((kSnA (kTt g (kN g 2)) (kN g 2) i) >>> i) % 2 = 1 ∧ s ≤ kCt (kRg (kTt g (kN g 2)) (kN g 2) i) 24) := fun q => q.1 hb
        refine kv_iinc (ls2 := [_, _, _, _, _, _]) dX8_ringsFrom_53 (nI (i + 1)) rfl (kv_inc1 i) rfl rfl rfl rfl ?_
        refine kv_goto dX8_ringsFrom_56 7 (by decide) ?_
        exact KV.loc ih (ksS (by first | rfl | exact congrArg (fun z => some (Value.int (nI z))) hs2.symm | exact congrArg (fun z => some (Value.int z)) (kn_or _ _) | exact congrArg (fun z => some (Value.int z)) ((kv_inc1 _).trans (congrArg nI (by rw [e1, if_pos hq]))) | exact congrArg (fun z => some (Value.int (nI z))) (by rw [e1, if_neg hq, Nat.add_zero])) (ksS (by first | rfl | exact congrArg (fun z => some (Value.int (nI z))) hs2.symm | exact congrArg (fun z => some (Value.int z)) (kn_or _ _) | exact congrArg (fun z => some (Value.int z)) ((kv_inc1 _).trans (congrArg nI (by rw [e1, if_pos hq]))) | exact congrArg (fun z => some (Value.int (nI z))) (by rw [e1, if_neg hq, Nat.add_zero])) (ksS (by first | rfl | exact congrArg (fun z => some (Value.int (nI z))) hs2.symm | exact congrArg (fun z => some (Value.int z)) (kn_or _ _) | exact congrArg (fun z => some (Value.int z)) ((kv_inc1 _).trans (congrArg nI (by rw [e1, if_pos hq]))) | exact congrArg (fun z => some (Value.int (nI z))) (by rw [e1, if_neg hq, Nat.add_zero])) (ksS (by first | rfl | exact congrArg (fun z => some (Value.int (nI z))) hs2.symm | exact congrArg (fun z => some (Value.int z)) (kn_or _ _) | exact congrArg (fun z => some (Value.int z)) ((kv_inc1 _).trans (congrArg nI (by rw [e1, if_pos hq]))) | exact congrArg (fun z => some (Value.int (nI z))) (by rw [e1, if_neg hq, Nat.add_zero])) (ksS (by first | rfl | exact congrArg (fun z => some (Value.int (nI z))) hs2.symm | exact congrArg (fun z => some (Value.int z)) (kn_or _ _) | exact congrArg (fun z => some (Value.int z)) ((kv_inc1 _).trans (congrArg nI (by rw [e1, if_pos hq]))) | exact congrArg (fun z => some (Value.int (nI z))) (by rw [e1, if_neg hq, Nat.add_zero])) (ks0 ksN))))))
      · have hb := (kBit0 (by omega)).mp h3
        refine kv_aload_n dX8_ringsFrom_28 rfl ?_
        refine kv_iload dX8_ringsFrom_29 rfl ?_
        refine kw_Vi [_] mX8_ringOf dX8_ringsFrom_31 lX8_77 wX8_ringOf kC8 hu rfl (by first | rfl | assumption) rfl rfl rfl (qX8_ringOf hu hr hg hT i hi) (by decide) ?_
        refine kv_istore (ls2 := [_, _, _, _, _, _]) dX8_ringsFrom_34 rfl rfl rfl rfl ?_
        refine kv_iload_n dX8_ringsFrom_36 rfl ?_
        refine kv_iload dX8_ringsFrom_37 rfl ?_
        refine kv_ior dX8_ringsFrom_39 ?_
        refine kv_istore_n (ls2 := [_, _, _, _, _, _]) dX8_ringsFrom_40 rfl rfl rfl rfl ?_
        refine kv_iload dX8_ringsFrom_41 rfl ?_
        refine kw_Si [_] mJ6_bitCount_0f7a4 dX8_ringsFrom_43 lX8_34 wJ6_bitCount_0f7a4 rfl rfl rfl (qJ6_bitCount_0f7a4 hu _) (by decide) ?_
        rw [bc]
        refine kv_iload_n dX8_ringsFrom_46 rfl ?_
        refine kv_icmp_lt dX8_ringsFrom_47 53 (by decide) (fun h4 => ?_) (fun h4 => ?_)
        · have hq : ¬ (¬ ((kSnA (kTt g (kN g 2)) (kN g 2) i) >>> i) % 2 = 1 ∧ s ≤ kCt (kRg (kTt g (kN g 2)) (kN g 2) i) 24) := fun q => nI_nlt q.2 (by omega) h4
          refine kv_iinc (ls2 := [_, _, _, _, _, _]) dX8_ringsFrom_53 (nI (i + 1)) rfl (kv_inc1 i) rfl rfl rfl rfl ?_
          refine kv_goto dX8_ringsFrom_56 7 (by decide) ?_
          exact KV.loc ih (ksS (by first | rfl | exact congrArg (fun z => some (Value.int (nI z))) hs2.symm | exact congrArg (fun z => some (Value.int z)) (kn_or _ _) | exact congrArg (fun z => some (Value.int z)) ((kv_inc1 _).trans (congrArg nI (by rw [e1, if_pos hq]))) | exact congrArg (fun z => some (Value.int (nI z))) (by rw [e1, if_neg hq, Nat.add_zero])) (ksS (by first | rfl | exact congrArg (fun z => some (Value.int (nI z))) hs2.symm | exact congrArg (fun z => some (Value.int z)) (kn_or _ _) | exact congrArg (fun z => some (Value.int z)) ((kv_inc1 _).trans (congrArg nI (by rw [e1, if_pos hq]))) | exact congrArg (fun z => some (Value.int (nI z))) (by rw [e1, if_neg hq, Nat.add_zero])) (ksS (by first | rfl | exact congrArg (fun z => some (Value.int (nI z))) hs2.symm | exact congrArg (fun z => some (Value.int z)) (kn_or _ _) | exact congrArg (fun z => some (Value.int z)) ((kv_inc1 _).trans (congrArg nI (by rw [e1, if_pos hq]))) | exact congrArg (fun z => some (Value.int (nI z))) (by rw [e1, if_neg hq, Nat.add_zero])) (ksS (by first | rfl | exact congrArg (fun z => some (Value.int (nI z))) hs2.symm | exact congrArg (fun z => some (Value.int z)) (kn_or _ _) | exact congrArg (fun z => some (Value.int z)) ((kv_inc1 _).trans (congrArg nI (by rw [e1, if_pos hq]))) | exact congrArg (fun z => some (Value.int (nI z))) (by rw [e1, if_neg hq, Nat.add_zero])) (ksS (by first | rfl | exact congrArg (fun z => some (Value.int (nI z))) hs2.symm | exact congrArg (fun z => some (Value.int z)) (kn_or _ _) | exact congrArg (fun z => some (Value.int z)) ((kv_inc1 _).trans (congrArg nI (by rw [e1, if_pos hq]))) | exact congrArg (fun z => some (Value.int (nI z))) (by rw [e1, if_neg hq, Nat.add_zero])) (ks0 ksN))))))
        · have hq : ¬ ((kSnA (kTt g (kN g 2)) (kN g 2) i) >>> i) % 2 = 1 ∧ s ≤ kCt (kRg (kTt g (kN g 2)) (kN g 2) i) 24 := ⟨hb, Nat.le_of_not_lt (fun q => h4 (nI_lt q (by omega)))⟩
          refine kv_iinc (ls2 := [_, _, _, _, _, _]) dX8_ringsFrom_50 _ rfl rfl rfl rfl rfl rfl ?_
          refine kv_iinc (ls2 := [_, _, _, _, _, _]) dX8_ringsFrom_53 (nI (i + 1)) rfl (kv_inc1 i) rfl rfl rfl rfl ?_
          refine kv_goto dX8_ringsFrom_56 7 (by decide) ?_
          exact KV.loc ih (ksS (by first | rfl | exact congrArg (fun z => some (Value.int (nI z))) hs2.symm | exact congrArg (fun z => some (Value.int z)) (kn_or _ _) | exact congrArg (fun z => some (Value.int z)) ((kv_inc1 _).trans (congrArg nI (by rw [e1, if_pos hq]))) | exact congrArg (fun z => some (Value.int (nI z))) (by rw [e1, if_neg hq, Nat.add_zero])) (ksS (by first | rfl | exact congrArg (fun z => some (Value.int (nI z))) hs2.symm | exact congrArg (fun z => some (Value.int z)) (kn_or _ _) | exact congrArg (fun z => some (Value.int z)) ((kv_inc1 _).trans (congrArg nI (by rw [e1, if_pos hq]))) | exact congrArg (fun z => some (Value.int (nI z))) (by rw [e1, if_neg hq, Nat.add_zero])) (ksS (by first | rfl | exact congrArg (fun z => some (Value.int (nI z))) hs2.symm | exact congrArg (fun z => some (Value.int z)) (kn_or _ _) | exact congrArg (fun z => some (Value.int z)) ((kv_inc1 _).trans (congrArg nI (by rw [e1, if_pos hq]))) | exact congrArg (fun z => some (Value.int (nI z))) (by rw [e1, if_neg hq, Nat.add_zero])) (ksS (by first | rfl | exact congrArg (fun z => some (Value.int (nI z))) hs2.symm | exact congrArg (fun z => some (Value.int z)) (kn_or _ _) | exact congrArg (fun z => some (Value.int z)) ((kv_inc1 _).trans (congrArg nI (by rw [e1, if_pos hq]))) | exact congrArg (fun z => some (Value.int (nI z))) (by rw [e1, if_neg hq, Nat.add_zero])) (ksS (by first | rfl | exact congrArg (fun z => some (Value.int (nI z))) hs2.symm | exact congrArg (fun z => some (Value.int z)) (kn_or _ _) | exact congrArg (fun z => some (Value.int z)) ((kv_inc1 _).trans (congrArg nI (by rw [e1, if_pos hq]))) | exact congrArg (fun z => some (Value.int (nI z))) (by rw [e1, if_neg hq, Nat.add_zero])) (ks0 ksN))))))

set_option maxRecDepth 20000 in
set_option maxHeartbeats 4000000 in
theorem qX11_rings {w : KW} {l : Launch} {u : KMem} (hu : kWd u) {a : KA} (hx : kRX a u) (ho : kOk a) (p0 : Int32) : KC w l mX11_rings 3 0 0 [.ref 0, .int p0] u (kOX u (krings a p0).1 (krings a p0).2) := by
  have hr := hx.1
  have hg := ho.1
  have hx20 := (hg.cnt (k := 2) rfl).2
  have hc30 := (hg.cnt (k := 0) rfl).2
  have ht10 := (hg.cnt (k := 3) rfl).2
  have he40 := (hg.cnt (k := 4) rfl).2
  have hs16 := hg.cnt (k := 1) rfl
  refine KC.of (ls := [_, _]) rfl rfl (Nat.le_of_ble_eq_true rfl) ?_
  refine kv_iload_n dX11_rings_0 rfl ?_
  refine kv_iconst dX11_rings_1 1 ki_1 ?_
  refine kv_bipush dX11_rings_2 20 kb_20 ?_
  refine kw_Si [_, _, _] mX11_outside dX11_rings_4 lX11_69 wX11_outside rfl rfl rfl (qX11_outside (by exact hu) _ _ _) (by decide) ?_
  refine kw_beq dX11_rings_7 17 (by decide) (fun h1 => ?_) (fun h1 => ?_)
  · have n1 : ¬ kOut p0 1 20 := h1
    have hS : krings a p0 = _ := if_neg n1
    obtain ⟨s, hs1, hs, rfl⟩ := kOut.b1 (n := 20) (by omega) n1
    rw [nI_clamp (by omega)] at hS
    refine kv_aload_n dX11_rings_17 rfl ?_
    refine kw_gR dX11_rings_18 fX11_47 hu (by first | rfl | assumption) rfl rfl (by first | rfl | assumption) ?_
    refine kw_VQ [] mX8_tieAll dX11_rings_21 lX11_347 wX8_tieAll kC8 hu rfl (by first | rfl | assumption) rfl rfl rfl (qX8_tieAll hu hr hg) (by decide) (fun _ v1 q1 => ?_)
    obtain ⟨rfl, e0, hT⟩ := q1
    have e1 : kEq kSX u v1 := e0.wk (fun a k q => Or.inl (by unfold kS96 at q; omega))
    have hr1 := hr.eqX hg e1
    have hu1 := e1.wd hu
    have E1 := e1
    refine kv_aload_n dX11_rings_24 rfl ?_
    refine kw_gR dX11_rings_25 fX11_47 hu1 (by first | rfl | assumption) rfl rfl (by first | rfl | assumption) ?_
    refine kv_iload_n dX11_rings_28 rfl ?_
    refine kw_Vi [_] mX8_ringsFrom dX11_rings_29 lX11_353 wX8_ringsFrom kC8 hu1 rfl (by first | rfl | assumption) rfl rfl rfl (qX8_ringsFrom hu1 hr1 hg hT s hs) (by decide) ?_
    exact kv_iret dX11_rings_32 rfl (by rw [hS]; exact kOX.id hx ho hu E1 rfl)
  · have hS : krings a p0 = (-1000001, kF a 1) := if_pos h1
    refine kv_aload_n dX11_rings_10 rfl ?_
    refine kv_ldc dX11_rings_11 kX11_74 ?_
    refine kw_Vi [_] mX11_refuse dX11_rings_13 lX11_75 wX11_refuse kC11 hu rfl (by first | rfl | assumption) rfl rfl rfl (qX11_refuse (by exact hu) 1 (by decide) (by decide) _ (by decide)) (by decide) ?_
    exact kv_iret dX11_rings_16 rfl (by rw [hS]; exact kOX.no hx ho hu (by decide) rfl)

set_option maxRecDepth 20000 in
set_option maxHeartbeats 4000000 in
theorem qX12_rings {w : KW} {l : Launch} {u : KMem} (hu : kWd u) {a : KA} (hm : kRM a u) (ho : kOk a) (p0 : Int32) : KC w l mX12_rings 4 0 0 [.ref 413, .int p0] u (kOM u (krings a p0).1 (krings a p0).2) := by
  have eg := hm.1
  have hg := ho.1
  have hx20 := (hg.cnt (k := 2) rfl).2
  have hc30 := (hg.cnt (k := 0) rfl).2
  have ht10 := (hg.cnt (k := 3) rfl).2
  have he40 := (hg.cnt (k := 4) rfl).2
  have hs16 := hg.cnt (k := 1) rfl
  have hw := hg.cnt (k := 2) rfl
  refine KC.of (ls := [_, _, _, _, _]) rfl rfl (Nat.le_of_ble_eq_true rfl) ?_
  refine kv_iload_n dX12_rings_0 rfl ?_
  refine kv_iconst dX12_rings_1 1 ki_1 ?_
  refine kv_bipush dX12_rings_2 20 kb_20 ?_
  refine kw_Si [_, _, _] mX12_within dX12_rings_4 lX12_78 wX12_within rfl rfl rfl (qX12_within (by exact hu) _ _ _) (by decide) ?_
  refine kw_bne dX12_rings_7 17 (by decide) (fun h1 => ?_) (fun h1 => ?_)
  · have n1 : ¬ kOut p0 1 20 := kIn_y h1
    have hS : krings a p0 = _ := if_neg n1
    obtain ⟨s, hs1, hs, rfl⟩ := kOut.b1 (n := 20) (by omega) n1
    rw [nI_clamp (by omega)] at hS
    refine kv_aload_n dX12_rings_17 rfl ?_
    refine kw_VQ [] mX12_findTies dX12_rings_18 lX12_336 wX12_findTies kC12 hu rfl (by first | rfl | assumption) rfl rfl rfl (qX12_findTies hu eg hg) (by decide) (fun _ v1 q1 => ?_)
    obtain ⟨rfl, e0, hT⟩ := q1
    have e1 : kEq kSM u v1 := e0.wk (fun a k q => Or.inl (by unfold kS25 at q; omega))
    have hu1 := e1.wd hu
    have E1 := e1
    have eg1 : v1.2.1 414 = a 0 := (E1.row kSM_now).trans eg
    refine kv_iconst dX12_rings_21 0 ki_0 ?_
    refine kv_istore_n (ls2 := [_, _, _, _, _]) dX12_rings_22 rfl rfl rfl rfl ?_
    refine kv_iconst dX12_rings_23 0 ki_0 ?_
    refine kv_istore_n (ls2 := [_, _, _, _, _]) dX12_rings_24 rfl rfl rfl rfl ?_
    refine kv_iconst dX12_rings_25 0 ki_0 ?_
    refine kv_istore (ls2 := [_, _, _, _, _]) dX12_rings_26 rfl rfl rfl rfl ?_
    refine KV.loc (ls2 := [some (.ref 413), some (.int (nI s)), some (.int (nI (kRc (kTt (a 0) (kN (a 0) 2)) (kN (a 0) 2) s (0)))), some (.int (nI (kSnA (kTt (a 0) (kN (a 0) 2)) (kN (a 0) 2) (0)))), some (.int (nI (0)))]) ?_ (ksS (by first | rfl | exact congrArg (fun z => some (Value.int z)) (kn_or _ _) | exact congrArg (fun z => some (Value.int z)) ((kn_add rfl (show (1 : Int32) = nI 1 from rfl)).trans (congrArg nI (by rw [e1, if_pos hq]))) | exact congrArg (fun z => some (Value.int z)) ((kn_add rfl (show (0 : Int32) = nI 0 from rfl)).trans (congrArg nI (by rw [e1, if_neg hq])))) (ksS (by first | rfl | exact congrArg (fun z => some (Value.int z)) (kn_or _ _) | exact congrArg (fun z => some (Value.int z)) ((kn_add rfl (show (1 : Int32) = nI 1 from rfl)).trans (congrArg nI (by rw [e1, if_pos hq]))) | exact congrArg (fun z => some (Value.int z)) ((kn_add rfl (show (0 : Int32) = nI 0 from rfl)).trans (congrArg nI (by rw [e1, if_neg hq])))) (ksS (by first | rfl | exact congrArg (fun z => some (Value.int z)) (kn_or _ _) | exact congrArg (fun z => some (Value.int z)) ((kn_add rfl (show (1 : Int32) = nI 1 from rfl)).trans (congrArg nI (by rw [e1, if_pos hq]))) | exact congrArg (fun z => some (Value.int z)) ((kn_add rfl (show (0 : Int32) = nI 0 from rfl)).trans (congrArg nI (by rw [e1, if_neg hq])))) (ksS (by first | rfl | exact congrArg (fun z => some (Value.int z)) (kn_or _ _) | exact congrArg (fun z => some (Value.int z)) ((kn_add rfl (show (1 : Int32) = nI 1 from rfl)).trans (congrArg nI (by rw [e1, if_pos hq]))) | exact congrArg (fun z => some (Value.int z)) ((kn_add rfl (show (0 : Int32) = nI 0 from rfl)).trans (congrArg nI (by rw [e1, if_neg hq])))) (ksS (by first | rfl | exact congrArg (fun z => some (Value.int z)) (kn_or _ _) | exact congrArg (fun z => some (Value.int z)) ((kn_add rfl (show (1 : Int32) = nI 1 from rfl)).trans (congrArg nI (by rw [e1, if_pos hq]))) | exact congrArg (fun z => some (Value.int z)) ((kn_add rfl (show (0 : Int32) = nI 0 from rfl)).trans (congrArg nI (by rw [e1, if_neg hq])))) ksN)))))
    refine kn_loop (P := fun i => KV w l mX12_rings 4 0 0 28 [some (.ref 413), some (.int (nI s)), some (.int (nI (kRc (kTt (a 0) (kN (a 0) 2)) (kN (a 0) 2) s (i)))), some (.int (nI (kSnA (kTt (a 0) (kN (a 0) 2)) (kN (a 0) 2) (i)))), some (.int (nI (i)))] [] v1 (kOM u (krings a (nI s)).1 (krings a (nI s)).2)) (kN (a 0) 2) ?_ (fun i hi ih => ?_)
    · refine kv_iload dX12_rings_28 rfl ?_
      refine kv_aload_n dX12_rings_30 rfl ?_
      refine kw_gR dX12_rings_31 fX12_9 hu1 (by first | rfl | assumption) rfl rfl (by first | rfl | assumption) ?_
      refine kv_iconst dX12_rings_34 2 ki_2 ?_
      refine kw_ig dX12_rings_35 hu1 eg1 rfl (_) (show (2 : Int32) = nI 2 from rfl) (by omega) rfl ?_
      rw [hw.1]
      refine kv_icmp_ge dX12_rings_36 84 (by decide) (fun h2 => ?_) (fun h2 => ?_)
      · refine kv_iload_n dX12_rings_84 rfl ?_
        exact kv_iret dX12_rings_85 rfl (by rw [hS]; exact kOM.id hm hu E1 rfl)
      · exact absurd h2 (fun q => q (Int32.le_refl _))
    · have e1 : (kRc (kTt (a 0) (kN (a 0) 2)) (kN (a 0) 2) s (i + 1)) = (kRc (kTt (a 0) (kN (a 0) 2)) (kN (a 0) 2) s i) + (if ¬ ((kSnA (kTt (a 0) (kN (a 0) 2)) (kN (a 0) 2) i) >>> i) % 2 = 1 ∧ s ≤ kCt (kRg (kTt (a 0) (kN (a 0) 2)) (kN (a 0) 2) i) 24 then 1 else 0) := rfl
      have hcb := kCt_b (kRg (kTt (a 0) (kN (a 0) 2)) (kN (a 0) 2) i) 24
      refine kv_iload dX12_rings_28 rfl ?_
      refine kv_aload_n dX12_rings_30 rfl ?_
      refine kw_gR dX12_rings_31 fX12_9 hu1 (by first | rfl | assumption) rfl rfl (by first | rfl | assumption) ?_
      refine kv_iconst dX12_rings_34 2 ki_2 ?_
      refine kw_ig dX12_rings_35 hu1 eg1 rfl (_) (show (2 : Int32) = nI 2 from rfl) (by omega) rfl ?_
      rw [hw.1]
      refine kv_icmp_ge dX12_rings_36 84 (by decide) (fun h3 => ?_) (fun h3 => ?_)
      · exact absurd h3 (kn_ge hi (by omega))
      · refine kv_iload_n dX12_rings_39 rfl ?_
        refine kv_iload_n dX12_rings_40 rfl ?_
        refine kv_iload dX12_rings_41 rfl ?_
        refine kw_Si [_, _] mX12_has dX12_rings_43 lX12_128 wX12_has rfl rfl rfl (qX12_has (by exact hu1) _ _) (by decide) ?_
        refine kw_bne dX12_rings_46 66 (by decide) (fun h4 => ?_) (fun h4 => ?_)
        · have hb := (kHas_ct (by omega)).mp h4
          have hq : ¬ (¬ ((kSnA (kTt (a 0) (kN (a 0) 2)) (kN (a 0) 2) i) >>> i) % 2 = 1 ∧ s ≤ kCt (kRg (kTt (a 0) (kN (a 0) 2)) (kN (a 0) 2) i) 24) := fun q => q.1 hb
          refine kv_iconst dX12_rings_66 0 ki_0 ?_
          refine kv_iadd dX12_rings_67 ?_
          refine kv_istore_n (ls2 := [_, _, _, _, _]) dX12_rings_68 rfl rfl rfl rfl ?_
          refine kv_iload_n dX12_rings_69 rfl ?_
          refine kv_aload_n dX12_rings_70 rfl ?_
          refine kv_iload dX12_rings_71 rfl ?_
          refine kw_Vi [_] mX12_ringOf dX12_rings_73 lX12_339 wX12_ringOf kC12 hu1 rfl (by first | rfl | assumption) rfl rfl rfl (qX12_ringOf hu1 eg1 hg hT i hi) (by decide) ?_
          refine kv_ior dX12_rings_76 ?_
          refine kv_istore_n (ls2 := [_, _, _, _, _]) dX12_rings_77 rfl rfl rfl rfl ?_
          refine kv_iinc (ls2 := [_, _, _, _, _]) dX12_rings_78 (nI (i + 1)) rfl (kv_inc1 i) rfl rfl rfl rfl ?_
          refine kv_goto dX12_rings_81 28 (by decide) ?_
          exact KV.loc ih (ksS (by first | rfl | exact congrArg (fun z => some (Value.int z)) (kn_or _ _) | exact congrArg (fun z => some (Value.int z)) ((kn_add rfl (show (1 : Int32) = nI 1 from rfl)).trans (congrArg nI (by rw [e1, if_pos hq]))) | exact congrArg (fun z => some (Value.int z)) ((kn_add rfl (show (0 : Int32) = nI 0 from rfl)).trans (congrArg nI (by rw [e1, if_neg hq])))) (ksS (by first | rfl | exact congrArg (fun z => some (Value.int z)) (kn_or _ _) | exact congrArg (fun z => some (Value.int z)) ((kn_add rfl (show (1 : Int32) = nI 1 from rfl)).trans (congrArg nI (by rw [e1, if_pos hq]))) | exact congrArg (fun z => some (Value.int z)) ((kn_add rfl (show (0 : Int32) = nI 0 from rfl)).trans (congrArg nI (by rw [e1, if_neg hq])))) (ksS (by first | rfl | exact congrArg (fun z => some (Value.int z)) (kn_or _ _) | exact congrArg (fun z => some (Value.int z)) ((kn_add rfl (show (1 : Int32) = nI 1 from rfl)).trans (congrArg nI (by rw [e1, if_pos hq]))) | exact congrArg (fun z => some (Value.int z)) ((kn_add rfl (show (0 : Int32) = nI 0 from rfl)).trans (congrArg nI (by rw [e1, if_neg hq])))) (ksS (by first | rfl | exact congrArg (fun z => some (Value.int z)) (kn_or _ _) | exact congrArg (fun z => some (Value.int z)) ((kn_add rfl (show (1 : Int32) = nI 1 from rfl)).trans (congrArg nI (by rw [e1, if_pos hq]))) | exact congrArg (fun z => some (Value.int z)) ((kn_add rfl (show (0 : Int32) = nI 0 from rfl)).trans (congrArg nI (by rw [e1, if_neg hq])))) (ksS (by first | rfl | exact congrArg (fun z => some (Value.int z)) (kn_or _ _) | exact congrArg (fun z => some (Value.int z)) ((kn_add rfl (show (1 : Int32) = nI 1 from rfl)).trans (congrArg nI (by rw [e1, if_pos hq]))) | exact congrArg (fun z => some (Value.int z)) ((kn_add rfl (show (0 : Int32) = nI 0 from rfl)).trans (congrArg nI (by rw [e1, if_neg hq])))) ksN)))))
        · have hb : ¬ ((kSnA (kTt (a 0) (kN (a 0) 2)) (kN (a 0) 2) i) >>> i) % 2 = 1 := fun q => h4 ((kHas_ct (by omega)).mpr q)
          refine kv_aload_n dX12_rings_49 rfl ?_
          refine kv_iload dX12_rings_50 rfl ?_
          refine kw_Vi [_] mX12_ringOf dX12_rings_52 lX12_339 wX12_ringOf kC12 hu1 rfl (by first | rfl | assumption) rfl rfl rfl (qX12_ringOf hu1 eg1 hg hT i hi) (by decide) ?_
          refine kw_Si [_] mX12_bits dX12_rings_55 lX12_149 wX12_bits rfl rfl rfl (qX12_bits (by exact hu1) _) (by decide) ?_
          rw [kBits_ct 24 (by omega)]
          refine kv_iload_n dX12_rings_58 rfl ?_
          refine kv_icmp_lt dX12_rings_59 66 (by decide) (fun h5 => ?_) (fun h5 => ?_)
          · have hq : ¬ (¬ ((kSnA (kTt (a 0) (kN (a 0) 2)) (kN (a 0) 2) i) >>> i) % 2 = 1 ∧ s ≤ kCt (kRg (kTt (a 0) (kN (a 0) 2)) (kN (a 0) 2) i) 24) := fun q => nI_nlt q.2 (by omega) h5
            refine kv_iconst dX12_rings_66 0 ki_0 ?_
            refine kv_iadd dX12_rings_67 ?_
            refine kv_istore_n (ls2 := [_, _, _, _, _]) dX12_rings_68 rfl rfl rfl rfl ?_
            refine kv_iload_n dX12_rings_69 rfl ?_
            refine kv_aload_n dX12_rings_70 rfl ?_
            refine kv_iload dX12_rings_71 rfl ?_
            refine kw_Vi [_] mX12_ringOf dX12_rings_73 lX12_339 wX12_ringOf kC12 hu1 rfl (by first | rfl | assumption) rfl rfl rfl (qX12_ringOf hu1 eg1 hg hT i hi) (by decide) ?_
            refine kv_ior dX12_rings_76 ?_
            refine kv_istore_n (ls2 := [_, _, _, _, _]) dX12_rings_77 rfl rfl rfl rfl ?_
            refine kv_iinc (ls2 := [_, _, _, _, _]) dX12_rings_78 (nI (i + 1)) rfl (kv_inc1 i) rfl rfl rfl rfl ?_
            refine kv_goto dX12_rings_81 28 (by decide) ?_
            exact KV.loc ih (ksS (by first | rfl | exact congrArg (fun z => some (Value.int z)) (kn_or _ _) | exact congrArg (fun z => some (Value.int z)) ((kn_add rfl (show (1 : Int32) = nI 1 from rfl)).trans (congrArg nI (by rw [e1, if_pos hq]))) | exact congrArg (fun z => some (Value.int z)) ((kn_add rfl (show (0 : Int32) = nI 0 from rfl)).trans (congrArg nI (by rw [e1, if_neg hq])))) (ksS (by first | rfl | exact congrArg (fun z => some (Value.int z)) (kn_or _ _) | exact congrArg (fun z => some (Value.int z)) ((kn_add rfl (show (1 : Int32) = nI 1 from rfl)).trans (congrArg nI (by rw [e1, if_pos hq]))) | exact congrArg (fun z => some (Value.int z)) ((kn_add rfl (show (0 : Int32) = nI 0 from rfl)).trans (congrArg nI (by rw [e1, if_neg hq])))) (ksS (by first | rfl | exact congrArg (fun z => some (Value.int z)) (kn_or _ _) | exact congrArg (fun z => some (Value.int z)) ((kn_add rfl (show (1 : Int32) = nI 1 from rfl)).trans (congrArg nI (by rw [e1, if_pos hq]))) | exact congrArg (fun z => some (Value.int z)) ((kn_add rfl (show (0 : Int32) = nI 0 from rfl)).trans (congrArg nI (by rw [e1, if_neg hq])))) (ksS (by first | rfl | exact congrArg (fun z => some (Value.int z)) (kn_or _ _) | exact congrArg (fun z => some (Value.int z)) ((kn_add rfl (show (1 : Int32) = nI 1 from rfl)).trans (congrArg nI (by rw [e1, if_pos hq]))) | exact congrArg (fun z => some (Value.int z)) ((kn_add rfl (show (0 : Int32) = nI 0 from rfl)).trans (congrArg nI (by rw [e1, if_neg hq])))) (ksS (by first | rfl | exact congrArg (fun z => some (Value.int z)) (kn_or _ _) | exact congrArg (fun z => some (Value.int z)) ((kn_add rfl (show (1 : Int32) = nI 1 from rfl)).trans (congrArg nI (by rw [e1, if_pos hq]))) | exact congrArg (fun z => some (Value.int z)) ((kn_add rfl (show (0 : Int32) = nI 0 from rfl)).trans (congrArg nI (by rw [e1, if_neg hq])))) ksN)))))
          · have hq : ¬ ((kSnA (kTt (a 0) (kN (a 0) 2)) (kN (a 0) 2) i) >>> i) % 2 = 1 ∧ s ≤ kCt (kRg (kTt (a 0) (kN (a 0) 2)) (kN (a 0) 2) i) 24 := ⟨hb, Nat.le_of_not_lt (fun q => h5 (nI_lt q (by omega)))⟩
            refine kv_iconst dX12_rings_62 1 ki_1 ?_
            refine kv_goto dX12_rings_63 67 (by decide) ?_
            refine kv_iadd dX12_rings_67 ?_
            refine kv_istore_n (ls2 := [_, _, _, _, _]) dX12_rings_68 rfl rfl rfl rfl ?_
            refine kv_iload_n dX12_rings_69 rfl ?_
            refine kv_aload_n dX12_rings_70 rfl ?_
            refine kv_iload dX12_rings_71 rfl ?_
            refine kw_Vi [_] mX12_ringOf dX12_rings_73 lX12_339 wX12_ringOf kC12 hu1 rfl (by first | rfl | assumption) rfl rfl rfl (qX12_ringOf hu1 eg1 hg hT i hi) (by decide) ?_
            refine kv_ior dX12_rings_76 ?_
            refine kv_istore_n (ls2 := [_, _, _, _, _]) dX12_rings_77 rfl rfl rfl rfl ?_
            refine kv_iinc (ls2 := [_, _, _, _, _]) dX12_rings_78 (nI (i + 1)) rfl (kv_inc1 i) rfl rfl rfl rfl ?_
            refine kv_goto dX12_rings_81 28 (by decide) ?_
            exact KV.loc ih (ksS (by first | rfl | exact congrArg (fun z => some (Value.int z)) (kn_or _ _) | exact congrArg (fun z => some (Value.int z)) ((kn_add rfl (show (1 : Int32) = nI 1 from rfl)).trans (congrArg nI (by rw [e1, if_pos hq]))) | exact congrArg (fun z => some (Value.int z)) ((kn_add rfl (show (0 : Int32) = nI 0 from rfl)).trans (congrArg nI (by rw [e1, if_neg hq])))) (ksS (by first | rfl | exact congrArg (fun z => some (Value.int z)) (kn_or _ _) | exact congrArg (fun z => some (Value.int z)) ((kn_add rfl (show (1 : Int32) = nI 1 from rfl)).trans (congrArg nI (by rw [e1, if_pos hq]))) | exact congrArg (fun z => some (Value.int z)) ((kn_add rfl (show (0 : Int32) = nI 0 from rfl)).trans (congrArg nI (by rw [e1, if_neg hq])))) (ksS (by first | rfl | exact congrArg (fun z => some (Value.int z)) (kn_or _ _) | exact congrArg (fun z => some (Value.int z)) ((kn_add rfl (show (1 : Int32) = nI 1 from rfl)).trans (congrArg nI (by rw [e1, if_pos hq]))) | exact congrArg (fun z => some (Value.int z)) ((kn_add rfl (show (0 : Int32) = nI 0 from rfl)).trans (congrArg nI (by rw [e1, if_neg hq])))) (ksS (by first | rfl | exact congrArg (fun z => some (Value.int z)) (kn_or _ _) | exact congrArg (fun z => some (Value.int z)) ((kn_add rfl (show (1 : Int32) = nI 1 from rfl)).trans (congrArg nI (by rw [e1, if_pos hq]))) | exact congrArg (fun z => some (Value.int z)) ((kn_add rfl (show (0 : Int32) = nI 0 from rfl)).trans (congrArg nI (by rw [e1, if_neg hq])))) (ksS (by first | rfl | exact congrArg (fun z => some (Value.int z)) (kn_or _ _) | exact congrArg (fun z => some (Value.int z)) ((kn_add rfl (show (1 : Int32) = nI 1 from rfl)).trans (congrArg nI (by rw [e1, if_pos hq]))) | exact congrArg (fun z => some (Value.int z)) ((kn_add rfl (show (0 : Int32) = nI 0 from rfl)).trans (congrArg nI (by rw [e1, if_neg hq])))) ksN)))))
  · have hS : krings a p0 = (-1000001, kF a 1) := if_pos (kIn_n h1)
    refine kv_aload_n dX12_rings_10 rfl ?_
    refine kv_ldc dX12_rings_11 kX12_83 ?_
    refine kw_Vi [_] mX12_finding dX12_rings_13 lX12_84 wX12_finding kC12 hu rfl (by first | rfl | assumption) rfl rfl rfl (qX12_finding (by exact hu) 1 (by decide) (by decide) _ (by decide)) (by decide) ?_
    exact kv_iret dX12_rings_16 rfl (by rw [hS]; exact kOM.no hm hu rfl)

theorem kring_ok {a : KA} (ho : kOk a) (p0 : Int32) : kOk (kring a p0).2 := by
  unfold kring
  split
  · exact ho.fnd 1
  · exact ho
theorem krings_ok {a : KA} (ho : kOk a) (p0 : Int32) : kOk (krings a p0).2 := by
  unfold krings
  split
  · exact ho.fnd 1
  · exact ho
