/-! feed -/
def kByte (p0 : Int64) (k : Nat) : Int32 := (p0 >>> ((8 * nI k).toInt64 &&& 63)).toInt32 &&& 255
theorem kByte_l (p0 : Int64) (k : Nat) : ((p0 >>> ((8 * nI k).toInt64 &&& 63)) &&& 255).toInt32 = kByte p0 k := Int64.toInt32_and _ _
theorem kByte_u (p0 : Int64) (k : Nat) : kUp (kByte p0 k) 255 := by
  unfold kByte
  rw [Int32.and_comm]
  obtain ⟨j, hj, e⟩ := kn_andl (m := 255) (y := (p0 >>> ((8 * nI k).toInt64 &&& 63)).toInt32)
  exact ⟨j, hj, e⟩
def kfeedG (g : Nat → Int32) (p0 : Int64) : Nat → Nat → Int32
  | 0 => g
  | k + 1 => kSet (kSet (kfeedG g p0 k) (1328 + (kN g 5 + k)) (kByte p0 k)) 5 (nI (kN g 5 + k + 1))
theorem kfeedG_n (g : Nat → Int32) (p0 : Int64) : ∀ m i, ¬ (i = 5 ∨ (1328 + kN g 5 ≤ i ∧ i < 1328 + kN g 5 + m)) → kfeedG g p0 m i = g i
  | 0, _, _ => rfl
  | m + 1, i, h => by
    unfold kfeedG
    rw [kSet_n (by omega), kSet_n (by omega)]
    exact kfeedG_n g p0 m i (by omega)
theorem kfeedG_5 {g : Nat → Int32} (hw : g 5 = nI (kN g 5)) (p0 : Int64) : ∀ m, kfeedG g p0 m 5 = nI (kN g 5 + m)
  | 0 => hw
  | m + 1 => by
    unfold kfeedG
    rw [kSet_s, Nat.add_assoc]
theorem kfeedG_s (g : Nat → Int32) (p0 : Int64) : ∀ m k, k < m → kfeedG g p0 m (1328 + (kN g 5 + k)) = kByte p0 k
  | 0, _, h => absurd h (Nat.not_lt_zero _)
  | m + 1, k, h => by
    unfold kfeedG
    rw [kSet_n (by omega)]
    by_cases q : k = m
    · subst q; rw [kSet_s]
    · rw [kSet_n (by omega)]; exact kfeedG_s g p0 m k (by omega)
def kfeed (a : KA) (p0 : Int64) (p1 : Int32) : Int32 × KA := if kOut p1 1 8 then (-1000001, kF a 1) else if a 0 5 + p1 ≤ 60 then (nI (kN (a 0) 5 + p1.toNatClampNeg), kUp1 a 0 (kfeedG (a 0) p0 p1.toNatClampNeg)) else (-1000004, kF a 4)
set_option maxRecDepth 20000 in
set_option maxHeartbeats 4000000 in
theorem qX11_feed {w : KW} {l : Launch} {u : KMem} (hu : kWd u) {a : KA} (hx : kRX a u) (ho : kOk a) (p0 : Int64) (p1 : Int32) : KC w l mX11_feed 1 0 0 [.ref 0, .long p0, .int p1] u (kOX u (kfeed a p0 p1).1 (kfeed a p0 p1).2) := by
  have hr := hx.1
  have hg := ho.1
  have hx20 := (hg.cnt (k := 2) rfl).2
  have hc30 := (hg.cnt (k := 0) rfl).2
  have ht10 := (hg.cnt (k := 3) rfl).2
  have he40 := (hg.cnt (k := 4) rfl).2
  have hs16 := hg.cnt (k := 1) rfl
  refine KC.of (ls := [_, _, _, _, _]) rfl rfl (Nat.le_of_ble_eq_true rfl) ?_
  have hw := hg.cnt (k := 5) rfl
  refine kv_iload_n dX11_feed_0 rfl ?_
  refine kv_iconst dX11_feed_1 1 ki_1 ?_
  refine kv_bipush dX11_feed_2 8 kb_8 ?_
  refine kw_Si [_, _, _] mX11_outside dX11_feed_4 lX11_69 wX11_outside rfl rfl rfl (qX11_outside hu _ _ _) (by decide) ?_
  refine kw_beq dX11_feed_7 17 (by decide) (fun h1 => ?_) (fun h1 => ?_)
  · have n1 : ¬ kOut p1 1 8 := h1
    have hS : kfeed a p0 p1 = _ := if_neg n1
    obtain ⟨m, hm1, hm8, rfl⟩ := kOut.b1 (n := 8) (by omega) n1
    rw [nI_clamp (by omega), hw.1, nI_add] at hS
    refine kv_aload_n dX11_feed_17 rfl ?_
    refine kw_gR dX11_feed_18 fX11_12 hu (by first | rfl | assumption) rfl rfl (by first | rfl | assumption) ?_
    refine kw_gI dX11_feed_21 fX11_222 hu (by first | rfl | assumption) rfl rfl ?_
    rw [hr.n5]
    refine kv_iload_n dX11_feed_24 rfl ?_
    rw [hw.1]
    refine kv_iadd dX11_feed_25 ?_
    refine kv_bipush dX11_feed_26 60 kb_60 ?_
    rw [nI_add]
    refine kv_icmp_le dX11_feed_28 38 (by decide) (fun h2 => ?_) (fun h2 => ?_)
    · rw [if_pos h2] at hS
      have h60 : kN (a 0) 5 + m ≤ 60 := (nI_leI (b := 60) (by omega) (by omega)).mp h2
      refine kv_iconst dX11_feed_38 0 ki_0 ?_
      refine kv_istore (ls2 := [_, _, _, _, _]) dX11_feed_39 rfl rfl rfl rfl ?_
      refine KV.loc (ls2 := [some (.ref 0), some (.long p0), none, some (.int (nI m)), some (.int (nI (0)))]) ?_ (ksS rfl (ksS rfl (ks0 (ksS rfl (ksS rfl ksN)))))
      refine kn_loop (P := fun i => ∀ v : KMem, kWd v → (∀ b k, ¬ (b = 11 ∧ kN (a 0) 5 ≤ k ∧ k < kN (a 0) 5 + i) → v.2.1 b k = u.2.1 b k) → (∀ k, k < i → v.2.1 11 (kN (a 0) 5 + k) = kByte p0 k) → KV w l mX11_feed 1 0 0 41 [some (.ref 0), some (.long p0), none, some (.int (nI m)), some (.int (nI i))] [] v (kOX u (kfeed a p0 (nI m)).1 (kfeed a p0 (nI m)).2)) (m) ?_ (fun i hi ih => ?_) u hu (fun b k _ => rfl) (fun k hk => absurd hk (Nat.not_lt_zero k))
      · intro v hv V W
        refine kv_iload dX11_feed_41 rfl ?_
        refine kv_iload_n dX11_feed_43 rfl ?_
        refine kv_icmp_ge dX11_feed_44 83 (by decide) (fun h3 => ?_) (fun h3 => ?_)
        · refine kv_aload_n dX11_feed_83 rfl ?_
          refine kw_gR dX11_feed_84 fX11_12 hv (by first | rfl | assumption) rfl rfl (by first | rfl | assumption) ?_
          refine kv_dup dX11_feed_87 rfl ?_
          refine kw_gI dX11_feed_88 fX11_222 hv (by first | rfl | assumption) rfl rfl ?_
          rw [V _ _ (by omega), hr.n5, hw.1]
          refine kv_iload_n dX11_feed_91 rfl ?_
          refine kv_iadd dX11_feed_92 ?_
          refine kw_pI dX11_feed_93 fX11_222 hv (by first | rfl | assumption) rfl rfl ?_
          refine kv_aload_n dX11_feed_96 rfl ?_
          refine kw_gR dX11_feed_97 fX11_12 hv (by first | rfl | assumption) rfl rfl (by first | rfl | assumption) ?_
          refine kw_gI dX11_feed_100 fX11_222 hv (by first | rfl | assumption) rfl rfl ?_
          rw [kv_si_s]
          exact kv_iret dX11_feed_103 rfl (by
              rw [hS, nI_add]
              refine ⟨rfl, hv, fun b hb => by rw [kv_si_row (by omega)]; exact funext fun k => V b k (by omega), hx.now ho (hr.feed hg h60 (kfeedG_n (a 0) p0 m) (fun b k q => by rw [kv_si_n (by omega)]; exact V b k (by omega)) (by rw [kv_si_s, kfeedG_5 hw.1]) (by unfold kN; rw [kfeedG_5 hw.1, nI_clamp (by omega)]; rfl) (fun k k1 k2 => ?_)) (fun b k hb _ => by rw [kv_si_n (by omega)]; exact V b k (by omega))⟩
              obtain ⟨j, rfl⟩ : ∃ j, k = kN (a 0) 5 + j := ⟨k - kN (a 0) 5, by omega⟩
              rw [kv_si_n (by omega), W j (by omega), kfeedG_s _ _ _ _ (by omega)])
        · exact absurd h3 (fun q => q (Int32.le_refl _))
      · intro v hv V W
        refine kv_iload dX11_feed_41 rfl ?_
        refine kv_iload_n dX11_feed_43 rfl ?_
        refine kv_icmp_ge dX11_feed_44 83 (by decide) (fun h4 => ?_) (fun h4 => ?_)
        · exact absurd h4 (kn_ge hi (by omega))
        · refine kv_aload_n dX11_feed_47 rfl ?_
          refine kw_gR dX11_feed_48 fX11_12 hv (by first | rfl | assumption) rfl rfl (by first | rfl | assumption) ?_
          refine kw_gR dX11_feed_51 fX11_225 hv (by first | rfl | assumption) rfl rfl (by first | rfl | assumption) ?_
          refine kv_aload_n dX11_feed_54 rfl ?_
          refine kw_gR dX11_feed_55 fX11_12 hv (by first | rfl | assumption) rfl rfl (by first | rfl | assumption) ?_
          refine kw_gI dX11_feed_58 fX11_222 hv (by first | rfl | assumption) rfl rfl ?_
          rw [V _ _ (by omega), hr.n5, hw.1]
          refine kv_iload dX11_feed_61 rfl ?_
          refine kv_iadd dX11_feed_63 ?_
          refine kv_lload_n dX11_feed_64 rfl ?_
          refine kv_bipush dX11_feed_65 8 kb_8 ?_
          refine kv_iload dX11_feed_67 rfl ?_
          refine kv_imul dX11_feed_69 ?_
          refine kv_lshr dX11_feed_70 ?_
          refine kv_l2i dX11_feed_71 ?_
          refine kv_sipush dX11_feed_72 255 kz_255 ?_
          refine kv_iand dX11_feed_75 ?_
          refine kw_is dX11_feed_76 hv (by first | rfl | assumption) (kN (a 0) 5 + i) (kn_add rfl rfl) (by omega) rfl ?_
          refine kv_iinc (ls2 := [_, _, _, _, _]) dX11_feed_77 (nI (i + 1)) rfl (kv_inc1 i) rfl rfl rfl rfl ?_
          refine kv_goto dX11_feed_80 41 (by decide) ?_
          refine KV.loc (ih _ hv (fun b k q => ?_) (fun k hk => ?_)) (ksS rfl (ksS rfl (ks0 (ksS rfl (ksS rfl ksN)))))
          · rw [kv_si_n (by omega)]; exact V b k (by omega)
          · by_cases q : k = i
            · subst q; exact kv_si_s _ _ _ _
            · rw [kv_si_n (by omega)]; exact W k (by omega)
    · rw [if_neg h2] at hS
      refine kv_aload_n dX11_feed_31 rfl ?_
      refine kv_ldc dX11_feed_32 kX11_83 ?_
      refine kw_Vi [_] mX11_refuse dX11_feed_34 lX11_75 wX11_refuse kC11 hu rfl (by first | rfl | assumption) rfl rfl rfl (qX11_refuse hu 4 (by decide) (by decide) _ (by decide)) (by decide) ?_
      exact kv_iret dX11_feed_37 rfl (by rw [hS]; exact kOX.no hx ho hu (by decide) rfl)
  · have hS : kfeed a p0 p1 = (-1000001, kF a 1) := if_pos h1
    refine kv_aload_n dX11_feed_10 rfl ?_
    refine kv_ldc dX11_feed_11 kX11_74 ?_
    refine kw_Vi [_] mX11_refuse dX11_feed_13 lX11_75 wX11_refuse kC11 hu rfl (by first | rfl | assumption) rfl rfl rfl (qX11_refuse hu 1 (by decide) (by decide) _ (by decide)) (by decide) ?_
    exact kv_iret dX11_feed_16 rfl (by rw [hS]; exact kOX.no hx ho hu (by decide) rfl)

set_option maxRecDepth 20000 in
set_option maxHeartbeats 4000000 in
theorem qX12_feed {w : KW} {l : Launch} {u : KMem} (hu : kWd u) {a : KA} (hm : kRM a u) (ho : kOk a) (p0 : Int64) (p1 : Int32) : KC w l mX12_feed 1 0 0 [.ref 413, .long p0, .int p1] u (kOM u (kfeed a p0 p1).1 (kfeed a p0 p1).2) := by
  have eg := hm.1
  have hg := ho.1
  have hx20 := (hg.cnt (k := 2) rfl).2
  have hc30 := (hg.cnt (k := 0) rfl).2
  have ht10 := (hg.cnt (k := 3) rfl).2
  have he40 := (hg.cnt (k := 4) rfl).2
  have hs16 := hg.cnt (k := 1) rfl
  refine KC.of (ls := [_, _, _, _, _]) rfl rfl (Nat.le_of_ble_eq_true rfl) ?_
  have hw := hg.cnt (k := 5) rfl
  refine kv_iload_n dX12_feed_0 rfl ?_
  refine kv_iconst dX12_feed_1 1 ki_1 ?_
  refine kv_bipush dX12_feed_2 8 kb_8 ?_
  refine kw_Si [_, _, _] mX12_within dX12_feed_4 lX12_78 wX12_within rfl rfl rfl (qX12_within hu _ _ _) (by decide) ?_
  refine kw_bne dX12_feed_7 17 (by decide) (fun h1 => ?_) (fun h1 => ?_)
  · have n1 : ¬ kOut p1 1 8 := kIn_y h1
    have hS : kfeed a p0 p1 = _ := if_neg n1
    obtain ⟨m, hm1, hm8, rfl⟩ := kOut.b1 (n := 8) (by omega) n1
    rw [nI_clamp (by omega), hw.1, nI_add] at hS
    refine kv_aload_n dX12_feed_17 rfl ?_
    refine kw_gR dX12_feed_18 fX12_9 hu (by first | rfl | assumption) rfl rfl (by first | rfl | assumption) ?_
    refine kv_iconst dX12_feed_21 5 ki_5 ?_
    refine kw_ig dX12_feed_22 hu eg rfl (_) (show (5 : Int32) = nI 5 from rfl) (by omega) rfl ?_
    refine kv_iload_n dX12_feed_23 rfl ?_
    rw [hw.1]
    refine kv_iadd dX12_feed_24 ?_
    refine kv_bipush dX12_feed_25 60 kb_60 ?_
    rw [nI_add]
    refine kv_icmp_le dX12_feed_27 37 (by decide) (fun h2 => ?_) (fun h2 => ?_)
    · rw [if_pos h2] at hS
      have h60 : kN (a 0) 5 + m ≤ 60 := (nI_leI (b := 60) (by omega) (by omega)).mp h2
      refine kv_iconst dX12_feed_37 0 ki_0 ?_
      refine kv_istore (ls2 := [_, _, _, _, _]) dX12_feed_38 rfl rfl rfl rfl ?_
      refine KV.loc (ls2 := [some (.ref 413), some (.long p0), none, some (.int (nI m)), some (.int (nI (0)))]) ?_ (ksS rfl (ksS rfl (ks0 (ksS rfl (ksS rfl ksN)))))
      refine kn_loop (P := fun i => ∀ v : KMem, kWd v → v.2.1 414 = kfeedG (a 0) p0 i → (∀ b, b ≠ 414 → v.2.1 b = u.2.1 b) → KV w l mX12_feed 1 0 0 40 [some (.ref 413), some (.long p0), none, some (.int (nI m)), some (.int (nI i))] [] v (kOM u (kfeed a p0 (nI m)).1 (kfeed a p0 (nI m)).2)) (m) ?_ (fun i hi ih => ?_) u hu hm.1 (fun b _ => rfl)
      · intro v hv egv evv
        refine kv_iload dX12_feed_40 rfl ?_
        refine kv_iload_n dX12_feed_42 rfl ?_
        refine kv_icmp_ge dX12_feed_43 89 (by decide) (fun h3 => ?_) (fun h3 => ?_)
        · refine kv_aload_n dX12_feed_89 rfl ?_
          refine kw_gR dX12_feed_90 fX12_9 hv (by first | rfl | assumption) rfl rfl (by first | rfl | assumption) ?_
          refine kv_iconst dX12_feed_93 5 ki_5 ?_
          refine kw_ig dX12_feed_94 hv egv rfl (_) (show (5 : Int32) = nI 5 from rfl) (by omega) rfl ?_
          exact kv_iret dX12_feed_95 rfl (by rw [hS, kfeedG_5 hw.1]; exact ⟨rfl, hv, fun b hb => evv b (by omega), hm.now egv (fun b hb => evv b (by omega)) (evv 413 (by omega))⟩)
        · exact absurd h3 (fun q => q (Int32.le_refl _))
      · intro v hv egv evv
        refine kv_iload dX12_feed_40 rfl ?_
        refine kv_iload_n dX12_feed_42 rfl ?_
        refine kv_icmp_ge dX12_feed_43 89 (by decide) (fun h4 => ?_) (fun h4 => ?_)
        · exact absurd h4 (kn_ge hi (by omega))
        · refine kv_aload_n dX12_feed_46 rfl ?_
          refine kw_gR dX12_feed_47 fX12_9 hv (by first | rfl | assumption) rfl rfl (by first | rfl | assumption) ?_
          refine kv_sipush dX12_feed_50 1328 kz_1328 ?_
          refine kv_aload_n dX12_feed_53 rfl ?_
          refine kw_gR dX12_feed_54 fX12_9 hv (by first | rfl | assumption) rfl rfl (by first | rfl | assumption) ?_
          refine kv_iconst dX12_feed_57 5 ki_5 ?_
          refine kw_ig dX12_feed_58 hv egv rfl (_) (show (5 : Int32) = nI 5 from rfl) (by omega) rfl ?_
          rw [kfeedG_5 hw.1]
          refine kv_iadd dX12_feed_59 ?_
          refine kv_lload_n dX12_feed_60 rfl ?_
          refine kv_bipush dX12_feed_61 8 kb_8 ?_
          refine kv_iload dX12_feed_63 rfl ?_
          refine kv_imul dX12_feed_65 ?_
          refine kv_lshr dX12_feed_66 ?_
          refine kv_ldc2 dX12_feed_67 kX12_184 ?_
          refine kv_land dX12_feed_70 ?_
          refine kv_l2i dX12_feed_71 ?_
          rw [show (((p0 >>> ((8 * nI i).toInt64 &&& 63)) &&& 255).toInt32) = kByte p0 i from kByte_l p0 i]
          refine kw_isg dX12_feed_72 hv egv evv (1328 + (kN (a 0) 5 + i)) (kn_add (show (1328 : Int32) = nI 1328 from rfl) rfl) (by omega) (fun vw1 huw1 egw1 evw1 => ?_)
          refine kv_aload_n dX12_feed_73 rfl ?_
          refine kw_gR dX12_feed_74 fX12_9 huw1 (by first | rfl | assumption) rfl rfl (by first | rfl | assumption) ?_
          refine kv_iconst dX12_feed_77 5 ki_5 ?_
          refine kv_dup2 dX12_feed_78 rfl rfl ?_
          refine kw_ig dX12_feed_79 huw1 egw1 rfl (5) (show (5 : Int32) = nI 5 from rfl) (by omega) rfl ?_
          rw [kSet_n (by omega), kfeedG_5 hw.1]
          refine kv_iconst dX12_feed_80 1 ki_1 ?_
          refine kv_iadd dX12_feed_81 ?_
          rw [show (nI (kN (a 0) 5 + i) + 1 : Int32) = nI (kN (a 0) 5 + i + 1) from kn_add rfl (show (1 : Int32) = nI 1 from rfl)]
          refine kw_isg dX12_feed_82 huw1 egw1 evw1 (_) (show (5 : Int32) = nI 5 from rfl) (by omega) (fun vw2 huw2 egw2 evw2 => ?_)
          refine kv_iinc (ls2 := [_, _, _, _, _]) dX12_feed_83 (nI (i + 1)) rfl (kv_inc1 i) rfl rfl rfl rfl ?_
          refine kv_goto dX12_feed_86 40 (by decide) ?_
          refine KV.loc (ih _ huw2 (by rw [egw2]; rfl) evw2) (ksS rfl (ksS rfl (ks0 (ksS rfl (ksS rfl ksN)))))
    · rw [if_neg h2] at hS
      refine kv_aload_n dX12_feed_30 rfl ?_
      refine kv_ldc dX12_feed_31 kX12_88 ?_
      refine kw_Vi [_] mX12_finding dX12_feed_33 lX12_84 wX12_finding kC12 hu rfl (by first | rfl | assumption) rfl rfl rfl (qX12_finding hu 4 (by decide) (by decide) _ (by decide)) (by decide) ?_
      exact kv_iret dX12_feed_36 rfl (by rw [hS]; exact kOM.no hm hu rfl)
  · have hS : kfeed a p0 p1 = (-1000001, kF a 1) := if_pos (kIn_n h1)
    refine kv_aload_n dX12_feed_10 rfl ?_
    refine kv_ldc dX12_feed_11 kX12_83 ?_
    refine kw_Vi [_] mX12_finding dX12_feed_13 lX12_84 wX12_finding kC12 hu rfl (by first | rfl | assumption) rfl rfl rfl (qX12_finding hu 1 (by decide) (by decide) _ (by decide)) (by decide) ?_
    exact kv_iret dX12_feed_16 rfl (by rw [hS]; exact kOM.no hm hu rfl)

theorem kfeed_ok {a : KA} (ho : kOk a) (p0 : Int64) (p1 : Int32) : kOk (kfeed a p0 p1).2 := by
  unfold kfeed
  have hw := ho.1.cnt (k := 5) rfl
  split
  · exact ho.fnd 1
  · rename_i h
    obtain ⟨m, hm1, hm8, rfl⟩ := kOut.b1 (n := 8) (by omega) h
    rw [nI_clamp (by omega)]
    split
    · rename_i h2
      rw [hw.1, nI_add] at h2
      have h60 : kN (a 0) 5 + m ≤ 60 := (nI_leI (b := 60) (by omega) (by omega)).mp h2
      refine ho.now (ho.1.feed h60 (kfeedG_n (a 0) p0 m) ⟨_, h60, kfeedG_5 hw.1 p0 m⟩ (by unfold kN; rw [kfeedG_5 hw.1, nI_clamp (by omega)]; rfl) (fun k k1 k2 => ?_))
      obtain ⟨j, rfl⟩ : ∃ j, k = kN (a 0) 5 + j := ⟨k - kN (a 0) 5, by omega⟩
      rw [kfeedG_s _ _ _ _ (by omega)]
      exact kByte_u p0 j
    · exact ho.fnd 4
