/-! panel -/
set_option maxRecDepth 20000 in
set_option maxHeartbeats 4000000 in
theorem qX7_draw {w : KW} {l : Launch} {u : KMem} (hu : kWd u) (n : Nat) (hn : n < 2147483648) (h0 : 0 < n) : KC w l mX7_draw 0 0 0 [.ref 1, .int (nI n)] u (kq (some (.int (nI (kX16 (kDw (u.2.1 1 18)) % n)))) (kv_si u 1 18 (kDw (u.2.1 1 18)))) := by
  refine KC.of (ls := [_, _]) rfl rfl (Nat.le_of_ble_eq_true rfl) ?_
  refine kv_aload_n dX7_draw_0 rfl ?_
  refine kv_aload_n dX7_draw_1 rfl ?_
  refine kw_gI dX7_draw_2 fX7_65 hu (by first | rfl | assumption) rfl rfl ?_
  refine kv_ldc dX7_draw_5 kX7_126 ?_
  refine kv_imul dX7_draw_7 ?_
  refine kv_sipush dX7_draw_8 12345 kz_12345 ?_
  refine kv_iadd dX7_draw_11 ?_
  rw [show (u.2.1 1 18 * 1103515245 + 12345 : Int32) = (kDw (u.2.1 1 18)) from rfl]
  refine kw_pI dX7_draw_12 fX7_65 hu (by first | rfl | assumption) rfl rfl ?_
  refine kv_iload_n dX7_draw_15 rfl ?_
  refine kv_if_gt dX7_draw_16 23 (by decide) (fun h1 => ?_) (fun h1 => ?_)
  · refine kv_aload_n dX7_draw_23 rfl ?_
    refine kw_gI dX7_draw_24 fX7_65 hu (by first | rfl | assumption) rfl rfl ?_
    rw [kv_si_s]
    refine kv_bipush dX7_draw_27 16 kb_16 ?_
    refine kv_iushr dX7_draw_29 ?_
    rw [kX16_e]
    refine kv_iload_n dX7_draw_30 rfl ?_
    refine kv_irem dX7_draw_31 (fun q => absurd ((nI_eq (b := 0) hn (by omega)).mp q) (by omega)) ?_
    rw [show (nI (kX16 (kDw (u.2.1 1 18))) - nI (kX16 (kDw (u.2.1 1 18))) / nI n * nI n : Int32) = nI (kX16 (kDw (u.2.1 1 18)) % n) from kn_rem (by have := kX16_lt (kDw (u.2.1 1 18)); omega) hn h0]
    exact kv_iret dX7_draw_32 rfl ⟨rfl, rfl⟩
  · exact absurd (nI_lt (a := 0) h0 hn) h1

set_option maxRecDepth 20000 in
set_option maxHeartbeats 4000000 in
theorem qX12_drawn {w : KW} {l : Launch} {u : KMem} (hu : kWd u) {g : Nat → Int32} (eg : u.2.1 414 = g) (n : Nat) (hn : n < 2147483648) (h0 : 0 < n) : KC w l mX12_drawn 0 0 0 [.ref 413, .int (nI n)] u (fun r v => r = some (.int (nI (kX16 (kDw (g 7)) % n))) ∧ kWd v ∧ v.2.1 414 = kSet g 7 (kDw (g 7)) ∧ ∀ b, b ≠ 414 → v.2.1 b = u.2.1 b) := by
  refine KC.of (ls := [_, _]) rfl rfl (Nat.le_of_ble_eq_true rfl) ?_
  refine kv_aload_n dX12_drawn_0 rfl ?_
  refine kw_gR dX12_drawn_1 fX12_9 hu (by first | rfl | assumption) rfl rfl (by first | rfl | assumption) ?_
  refine kv_bipush dX12_drawn_4 7 kb_7 ?_
  refine kv_aload_n dX12_drawn_6 rfl ?_
  refine kw_gR dX12_drawn_7 fX12_9 hu (by first | rfl | assumption) rfl rfl (by first | rfl | assumption) ?_
  refine kv_bipush dX12_drawn_10 7 kb_7 ?_
  refine kw_ig dX12_drawn_12 hu eg rfl (_) (show (7 : Int32) = nI 7 from rfl) (by omega) rfl ?_
  refine kv_ldcw dX12_drawn_13 kX12_323 ?_
  refine kv_imul dX12_drawn_16 ?_
  refine kv_sipush dX12_drawn_17 12345 kz_12345 ?_
  refine kv_iadd dX12_drawn_20 ?_
  rw [show (g 7 * 1103515245 + 12345 : Int32) = (kDw (g 7)) from rfl]
  refine kw_isg dX12_drawn_21 hu eg (fun _ _ => rfl) (_) (show (7 : Int32) = nI 7 from rfl) (by omega) (fun vw1 huw1 egw1 evw1 => ?_)
  refine kv_aload_n dX12_drawn_22 rfl ?_
  refine kw_gR dX12_drawn_23 fX12_9 huw1 (by first | rfl | assumption) rfl rfl (by first | rfl | assumption) ?_
  refine kv_bipush dX12_drawn_26 7 kb_7 ?_
  refine kw_ig dX12_drawn_28 huw1 egw1 rfl (_) (show (7 : Int32) = nI 7 from rfl) (by omega) rfl ?_
  rw [kSet_s]
  refine kv_bipush dX12_drawn_29 16 kb_16 ?_
  refine kv_iushr dX12_drawn_31 ?_
  rw [kX16_e]
  refine kv_iload_n dX12_drawn_32 rfl ?_
  refine kv_irem dX12_drawn_33 (fun q => absurd ((nI_eq (b := 0) hn (by omega)).mp q) (by omega)) ?_
  rw [show (nI (kX16 (kDw (g 7))) - nI (kX16 (kDw (g 7))) / nI n * nI n : Int32) = nI (kX16 (kDw (g 7)) % n) from kn_rem (by have := kX16_lt (kDw (g 7)); omega) hn h0]
  exact kv_iret dX12_drawn_34 rfl ⟨rfl, huw1, egw1, evw1⟩

set_option maxRecDepth 20000 in
set_option maxHeartbeats 4000000 in
theorem qX11_bitAt {w : KW} {l : Launch} {u : KMem} (hu : kWd u) (m p : Nat) (hm : m < 2048) (hp : p < 11) : KC w l mX11_bitAt 0 0 0 [.int (nI m), .int (nI p)] u (kq (some (.int (nI (kLsb (kClr m p))))) u) := by
  refine KC.of (ls := [_, _, _, _]) rfl rfl (Nat.le_of_ble_eq_true rfl) ?_
  refine kv_iload_n dX11_bitAt_0 rfl ?_
  refine kv_istore_n (ls2 := [_, _, _, _]) dX11_bitAt_1 rfl rfl rfl rfl ?_
  refine kv_iconst dX11_bitAt_2 0 ki_0 ?_
  refine kv_istore_n (ls2 := [_, _, _, _]) dX11_bitAt_3 rfl rfl rfl rfl ?_
  refine KV.loc (ls2 := [some (.int (nI m)), some (.int (nI p)), some (.int (nI (kClr m (0)))), some (.int (nI (0)))]) ?_ (ksS (by first | rfl | exact congrArg (fun z => some (Value.int z)) (kLow_e (kClr_le hm _)).1) (ksS (by first | rfl | exact congrArg (fun z => some (Value.int z)) (kLow_e (kClr_le hm _)).1) (ksS (by first | rfl | exact congrArg (fun z => some (Value.int z)) (kLow_e (kClr_le hm _)).1) (ksS (by first | rfl | exact congrArg (fun z => some (Value.int z)) (kLow_e (kClr_le hm _)).1) ksN))))
  refine kn_loop (P := fun i => KV w l mX11_bitAt 0 0 0 4 [some (.int (nI m)), some (.int (nI p)), some (.int (nI (kClr m (i)))), some (.int (nI (i)))] [] u (kq (some (.int (nI (kLsb (kClr m p))))) u)) (p) ?_ (fun i hi ih => ?_)
  · refine kv_iload_n dX11_bitAt_4 rfl ?_
    refine kv_iload_n dX11_bitAt_5 rfl ?_
    refine kv_icmp_ge dX11_bitAt_6 27 (by decide) (fun h1 => ?_) (fun h1 => ?_)
    · refine kv_iload_n dX11_bitAt_27 rfl ?_
      refine kv_iload_n dX11_bitAt_28 rfl ?_
      refine kv_ineg dX11_bitAt_29 ?_
      refine kv_iand dX11_bitAt_30 ?_
      exact kv_iret dX11_bitAt_31 rfl ⟨congrArg (fun z => some (Value.int z)) (kLow_e (kClr_le hm _)).2.1, rfl⟩
    · exact absurd h1 (fun q => q (Int32.le_refl _))
  · refine kv_iload_n dX11_bitAt_4 rfl ?_
    refine kv_iload_n dX11_bitAt_5 rfl ?_
    refine kv_icmp_ge dX11_bitAt_6 27 (by decide) (fun h2 => ?_) (fun h2 => ?_)
    · exact absurd h2 (kn_ge hi (by omega))
    · refine kv_iload_n dX11_bitAt_9 rfl ?_
      refine kv_bipush dX11_bitAt_10 32 kb_32 ?_
      refine kv_icmp_ge dX11_bitAt_12 27 (by decide) (fun h3 => ?_) (fun h3 => ?_)
      · exact absurd h3 (kn_ge (n := 32) (by omega) (by omega))
      · refine kv_iload_n dX11_bitAt_15 rfl ?_
        refine kv_iload_n dX11_bitAt_16 rfl ?_
        refine kv_iconst dX11_bitAt_17 1 ki_1 ?_
        refine kv_isub dX11_bitAt_18 ?_
        refine kv_iand dX11_bitAt_19 ?_
        refine kv_istore_n (ls2 := [_, _, _, _]) dX11_bitAt_20 rfl rfl rfl rfl ?_
        refine kv_iinc (ls2 := [_, _, _, _]) dX11_bitAt_21 (nI (i + 1)) rfl (kv_inc1 i) rfl rfl rfl rfl ?_
        refine kv_goto dX11_bitAt_24 4 (by decide) ?_
        exact KV.loc ih (ksS (by first | rfl | exact congrArg (fun z => some (Value.int z)) (kLow_e (kClr_le hm _)).1) (ksS (by first | rfl | exact congrArg (fun z => some (Value.int z)) (kLow_e (kClr_le hm _)).1) (ksS (by first | rfl | exact congrArg (fun z => some (Value.int z)) (kLow_e (kClr_le hm _)).1) (ksS (by first | rfl | exact congrArg (fun z => some (Value.int z)) (kLow_e (kClr_le hm _)).1) ksN))))

def kM0 (g : Nat → Int32) (x : Nat) : Nat := (2047 ^^^ (2047 &&& (2 ^ kN g (40 + 8 * kCarOf g x 0 + 0) ||| 2 ^ kN g (40 + 8 * kCarOf g x 1 + 0))))
def kpanel (a : KA) (p0 : Int32) : Int32 × KA := if kOut p0 0 (a 0 2 - 1) then (-1000001, kF a 1) else (nI (kPanA (a 0 7) (kM0 (a 0) p0.toNatClampNeg) 3).2.2, kUp1 a 0 (kSet (a 0) 7 (kPanA (a 0 7) (kM0 (a 0) p0.toNatClampNeg) 3).1))
theorem kGI.insX {g : Nat → Int32} (hg : kGI g) {x : Nat} (hx : x < kN g 2) {s : Nat} (hs : s < 2) : g (328 + 7 * x + s) = nI (kCarOf g x s) ∧ kCarOf g x s < kN g 0 ∧ g (40 + 8 * kCarOf g x s + 0) = nI (kN g (40 + 8 * kCarOf g x s + 0)) ∧ kN g (40 + 8 * kCarOf g x s + 0) < 11 := by
  have hC := hg.carOf hx hs
  have hI := (hg.2.2.2.1 _ hC.2).1.n (by omega)
  exact ⟨hC.1, hC.2, hI.1, Nat.lt_of_le_of_lt hI.2 (by decide)⟩
/-- where the p-th of a set is sought: what is left to pass at i -/
theorem kIx_go {m p i : Nat} (hm : m < 2048) (hp : p < kCt m 11) (hi : i < kIx m p) : kCt m i ≤ p ∧ ((m >>> i) % 2 = 1 → kCt m i < p) := by
  have h := kPan_f hm hp
  have h1 := kCt_m m (i + 1) (kIx m p - (i + 1))
  rw [show i + 1 + (kIx m p - (i + 1)) = kIx m p by omega, h.2.1] at h1
  have e : kCt m (i + 1) = kCt m i + (m >>> i) % 2 := rfl
  omega
theorem kXor_bit {m i : Nat} (hm : m < 2048) (hi : i < 11) : ((2047 ^^^ m) >>> i) % 2 = 1 ↔ (m >>> i) % 2 = 0 := by
  have h1 : ((2047 ^^^ m) >>> i) % 2 = 1 ↔ (2047 ^^^ m).testBit i = true := by
    rw [Nat.testBit_eq_decide_div_mod_eq, Nat.shiftRight_eq_div_pow, decide_eq_true_iff]
  have h2 : (m >>> i) % 2 = 0 ↔ m.testBit i = false := by
    rw [Nat.testBit_eq_decide_div_mod_eq, Nat.shiftRight_eq_div_pow, decide_eq_false_iff_not]
    omega
  have h3 : (2047 : Nat).testBit i = true := by
    have : ∀ j, j < 11 → (2047 : Nat).testBit j = true := by decide
    exact this i hi
  rw [h1, h2, Nat.testBit_xor, h3]
  cases m.testBit i <;> decide
theorem kRS.draw_ {g g' : Nat → Int32} {u v : KMem} (h : kRS 1 g u) (hg : kGI g) (E : ∀ i, ¬ i = 7 → g' i = g i) (V : ∀ b k, ¬ (b = 1 ∧ k = 18) → v.2.1 b k = u.2.1 b k) (C : v.2.1 1 18 = g' 7) : kRS 1 g' v := by
  have e : g' = kSet g 7 (g' 7) := funext fun j => by
    by_cases q : j = 7
    · rw [q, kSet_s]
    · rw [kSet_n q]; exact E j q
  rw [e]
  refine (h.setDraw hg (g' 7)).of (fun b k _ _ => ?_) (hg.draw_ (fun i hi => kSet_n hi))
  by_cases q : b = 1 ∧ k = 18
  · rw [q.1, q.2, kv_si_s]; exact C
  · rw [kv_si_n q]; exact V b k q
set_option maxRecDepth 20000 in
set_option maxHeartbeats 4000000 in
theorem qX11_panel {w : KW} {l : Launch} {u : KMem} (hu : kWd u) {a : KA} (hx : kRX a u) (ho : kOk a) (p0 : Int32) : KC w l mX11_panel 3 0 0 [.ref 0, .int p0] u (kOX u (kpanel a p0).1 (kpanel a p0).2) := by
  have hr := hx.1
  have hg := ho.1
  have hx20 := (hg.cnt (k := 2) rfl).2
  have hc30 := (hg.cnt (k := 0) rfl).2
  have ht10 := (hg.cnt (k := 3) rfl).2
  have he40 := (hg.cnt (k := 4) rfl).2
  have hs16 := hg.cnt (k := 1) rfl
  refine KC.of (ls := [_, _, _, _, _, _, _, _]) rfl rfl (Nat.le_of_ble_eq_true rfl) ?_
  refine kv_aload_n dX11_panel_0 rfl ?_
  refine kv_iload_n dX11_panel_1 rfl ?_
  refine kw_Vi [_] mX11_noCrash dX11_panel_2 lX11_151 wX11_noCrash kC11 hu rfl (by first | rfl | assumption) rfl rfl rfl (qX11_noCrash (by exact hu) _) (by decide) ?_
  refine kw_beq dX11_panel_5 15 (by decide) (fun h1 => ?_) (fun h1 => ?_)
  · rw [hr.n2] at h1
    have n1 : ¬ kOut p0 0 (a 0 2 - 1) := h1
    have hS : kpanel a p0 = _ := if_neg n1
    obtain ⟨x, hx2, rfl⟩ := hg.at (k := 2) rfl n1
    rw [nI_clamp (by omega)] at hS
    have c0 := hg.insX hx2 (s := 0) (by omega)
    have c1 := hg.insX hx2 (s := 1) (by omega)
    have k0 : 9 ≤ kCt (kM0 (a 0) x) 11 ∧ kM0 (a 0) x < 2048 ∧ (2 ^ (kN (a 0) (40 + 8 * kCarOf (a 0) x 0 + 0)) ||| 2 ^ (kN (a 0) (40 + 8 * kCarOf (a 0) x 1 + 0))) = 2047 ^^^ kM0 (a 0) x := kPan_0 _ c0.2.2.2 _ c1.2.2.2
    have hI := fun i (hi : i ≤ 3) => kPanA_i (x0 := a 0 7) k0.1 k0.2.1 k0.2.2 i hi
    have kx := ks_crash x (by omega)
    have kx1 := kx.1
    have kx2 := kx.2.1
    have kx4 := kx.2.2.2.1
    have kx6 := kx.2.2.2.2.2
    have kc0 := ks_car (kCarOf (a 0) x 0) (by omega)
    have kc0a := kc0.1
    have kc0d := kc0.2.2.2
    have kc1 := ks_car (kCarOf (a 0) x 1) (by omega)
    have kc1a := kc1.1
    have kc1d := kc1.2.2.2
    refine kv_aload_n dX11_panel_15 rfl ?_
    refine kw_gR dX11_panel_16 fX11_12 hu (by first | rfl | assumption) rfl rfl (by first | rfl | assumption) ?_
    refine kw_gR dX11_panel_19 fX11_137 hu (by first | rfl | assumption) rfl rfl (by first | rfl | assumption) ?_
    refine kv_iload_n dX11_panel_22 rfl ?_
    refine kw_al (t := 1) (n := 20) dX11_panel_23 hu rfl rfl (x) rfl (by omega) rfl (by first | rfl | assumption) ?_
    refine kv_astore_n (ls2 := [_, _, _, _, _, _, _, _]) dX11_panel_24 rfl rfl rfl rfl ?_
    refine kv_iconst dX11_panel_25 1 ki_1 ?_
    refine kv_aload_n dX11_panel_26 rfl ?_
    refine kw_gR dX11_panel_27 fX11_12 hu (by first | rfl | assumption) rfl rfl (by first | rfl | assumption) ?_
    refine kw_gR dX11_panel_30 fX11_84 hu (by first | rfl | assumption) rfl rfl (by first | rfl | assumption) ?_
    refine kv_aload_n dX11_panel_33 rfl ?_
    refine kw_gR dX11_panel_34 fX11_154 hu (by first | rfl | assumption) rfl rfl (by first | rfl | assumption) ?_
    refine kv_iconst dX11_panel_37 0 ki_0 ?_
    refine kw_il dX11_panel_38 hu (by first | rfl | assumption) (0) (show (0 : Int32) = nI 0 from rfl) (by omega) rfl ?_
    rw [hr.cc hx2 0 (by omega), c0.1]
    refine kw_al (t := 0) (n := 30) dX11_panel_39 hu rfl rfl (kCarOf (a 0) x 0) rfl (by omega) rfl (by first | rfl | assumption) ?_
    refine kw_gI dX11_panel_40 fX11_98 hu (by first | rfl | assumption) rfl rfl ?_
    rw [hr.car c0.2.1 0 (by omega), c0.2.2.1]
    refine kv_ishl dX11_panel_43 ?_
    rw [kn_pow _ (by have := c0.2.2.2; omega)]
    refine kv_iconst dX11_panel_44 1 ki_1 ?_
    refine kv_aload_n dX11_panel_45 rfl ?_
    refine kw_gR dX11_panel_46 fX11_12 hu (by first | rfl | assumption) rfl rfl (by first | rfl | assumption) ?_
    refine kw_gR dX11_panel_49 fX11_84 hu (by first | rfl | assumption) rfl rfl (by first | rfl | assumption) ?_
    refine kv_aload_n dX11_panel_52 rfl ?_
    refine kw_gR dX11_panel_53 fX11_154 hu (by first | rfl | assumption) rfl rfl (by first | rfl | assumption) ?_
    refine kv_iconst dX11_panel_56 1 ki_1 ?_
    refine kw_il dX11_panel_57 hu (by first | rfl | assumption) (1) (show (1 : Int32) = nI 1 from rfl) (by omega) rfl ?_
    rw [hr.cc hx2 1 (by omega), c1.1]
    refine kw_al (t := 0) (n := 30) dX11_panel_58 hu rfl rfl (kCarOf (a 0) x 1) rfl (by omega) rfl (by first | rfl | assumption) ?_
    refine kw_gI dX11_panel_59 fX11_98 hu (by first | rfl | assumption) rfl rfl ?_
    rw [hr.car c1.2.1 0 (by omega), c1.2.2.1]
    refine kv_ishl dX11_panel_62 ?_
    rw [kn_pow _ (by have := c1.2.2.2; omega)]
    refine kv_ior dX11_panel_63 ?_
    rw [kn_or]
    refine kv_istore_n (ls2 := [_, _, _, _, _, _, _, _]) dX11_panel_64 rfl rfl rfl rfl ?_
    refine kv_sipush dX11_panel_65 2047 kz_2047 ?_
    refine kv_iload_n dX11_panel_68 rfl ?_
    refine kv_iconst dX11_panel_69 (-1) ki_m1 ?_
    refine kv_ixor dX11_panel_70 ?_
    refine kv_iand dX11_panel_71 ?_
    rw [show ((2047 : Int32) &&& (nI (2 ^ (kN (a 0) (40 + 8 * kCarOf (a 0) x 0 + 0)) ||| 2 ^ (kN (a 0) (40 + 8 * kCarOf (a 0) x 1 + 0))) ^^^ (-1))) = nI (kM0 (a 0) x) from (kb_andn _ _).trans (by rw [show (2047 : Int32) = nI 2047 from rfl, kn_and, kn_xor]; rfl)]
    refine kv_istore (ls2 := [_, _, _, _, _, _, _, _]) dX11_panel_72 rfl rfl rfl rfl ?_
    refine kv_iconst dX11_panel_74 0 ki_0 ?_
    refine kv_istore (ls2 := [_, _, _, _, _, _, _, _]) dX11_panel_75 rfl rfl rfl rfl ?_
    refine kv_iconst dX11_panel_77 0 ki_0 ?_
    refine kv_istore (ls2 := [_, _, _, _, _, _, _, _]) dX11_panel_78 rfl rfl rfl rfl ?_
    refine KV.loc (ls2 := [some (.ref 0), some (.int (nI x)), some (.ref (1 + (72 + 3 * x))), some (.int (nI (2 ^ (kN (a 0) (40 + 8 * kCarOf (a 0) x 0 + 0)) ||| 2 ^ (kN (a 0) (40 + 8 * kCarOf (a 0) x 1 + 0))))), some (.int (nI (kPanA (a 0 7) (kM0 (a 0) x) (0)).2.1)), some (.int (nI (kPanA (a 0 7) (kM0 (a 0) x) (0)).2.2)), some (.int (nI (0))), none]) ?_ (ksS (by first | rfl | exact congrArg (fun z => some (Value.int z)) ((congrArg (fun z => nI (kPanA (a 0 7) (kM0 (a 0) x) i).2.1 &&& (z ^^^ (-1))) (congrArg nI hf.2.2.2.1)).trans ((kb_andn _ _).trans (by rw [kn_and, kn_xor]; rfl))) | exact congrArg (fun z => some (Value.int z)) ((kn_or _ _).trans (by rw [hf.2.2.2.1]; rfl))) (ksS (by first | rfl | exact congrArg (fun z => some (Value.int z)) ((congrArg (fun z => nI (kPanA (a 0 7) (kM0 (a 0) x) i).2.1 &&& (z ^^^ (-1))) (congrArg nI hf.2.2.2.1)).trans ((kb_andn _ _).trans (by rw [kn_and, kn_xor]; rfl))) | exact congrArg (fun z => some (Value.int z)) ((kn_or _ _).trans (by rw [hf.2.2.2.1]; rfl))) (ksS (by first | rfl | exact congrArg (fun z => some (Value.int z)) ((congrArg (fun z => nI (kPanA (a 0 7) (kM0 (a 0) x) i).2.1 &&& (z ^^^ (-1))) (congrArg nI hf.2.2.2.1)).trans ((kb_andn _ _).trans (by rw [kn_and, kn_xor]; rfl))) | exact congrArg (fun z => some (Value.int z)) ((kn_or _ _).trans (by rw [hf.2.2.2.1]; rfl))) (ksS (by first | rfl | exact congrArg (fun z => some (Value.int z)) ((congrArg (fun z => nI (kPanA (a 0 7) (kM0 (a 0) x) i).2.1 &&& (z ^^^ (-1))) (congrArg nI hf.2.2.2.1)).trans ((kb_andn _ _).trans (by rw [kn_and, kn_xor]; rfl))) | exact congrArg (fun z => some (Value.int z)) ((kn_or _ _).trans (by rw [hf.2.2.2.1]; rfl))) (ksS (by first | rfl | exact congrArg (fun z => some (Value.int z)) ((congrArg (fun z => nI (kPanA (a 0 7) (kM0 (a 0) x) i).2.1 &&& (z ^^^ (-1))) (congrArg nI hf.2.2.2.1)).trans ((kb_andn _ _).trans (by rw [kn_and, kn_xor]; rfl))) | exact congrArg (fun z => some (Value.int z)) ((kn_or _ _).trans (by rw [hf.2.2.2.1]; rfl))) (ksS (by first | rfl | exact congrArg (fun z => some (Value.int z)) ((congrArg (fun z => nI (kPanA (a 0 7) (kM0 (a 0) x) i).2.1 &&& (z ^^^ (-1))) (congrArg nI hf.2.2.2.1)).trans ((kb_andn _ _).trans (by rw [kn_and, kn_xor]; rfl))) | exact congrArg (fun z => some (Value.int z)) ((kn_or _ _).trans (by rw [hf.2.2.2.1]; rfl))) (ksS (by first | rfl | exact congrArg (fun z => some (Value.int z)) ((congrArg (fun z => nI (kPanA (a 0 7) (kM0 (a 0) x) i).2.1 &&& (z ^^^ (-1))) (congrArg nI hf.2.2.2.1)).trans ((kb_andn _ _).trans (by rw [kn_and, kn_xor]; rfl))) | exact congrArg (fun z => some (Value.int z)) ((kn_or _ _).trans (by rw [hf.2.2.2.1]; rfl))) (ks0 ksN))))))))
    refine kn_loop (P := fun i => ∀ v : KMem, kWd v → (∀ b k, ¬ (b = 1 ∧ k = 18) → v.2.1 b k = u.2.1 b k) → v.2.1 1 18 = (kPanA (a 0 7) (kM0 (a 0) x) i).1 → KV w l mX11_panel 3 0 0 80 [some (.ref 0), some (.int (nI x)), some (.ref (1 + (72 + 3 * x))), some (.int (nI (2 ^ (kN (a 0) (40 + 8 * kCarOf (a 0) x 0 + 0)) ||| 2 ^ (kN (a 0) (40 + 8 * kCarOf (a 0) x 1 + 0))))), some (.int (nI (kPanA (a 0 7) (kM0 (a 0) x) i).2.1)), some (.int (nI (kPanA (a 0 7) (kM0 (a 0) x) i).2.2)), some (.int (nI i)), none] [] v (kOX u (kpanel a (nI x)).1 (kpanel a (nI x)).2)) (3) ?_ (fun i hi ih => ?_) u hu (fun b k _ => rfl) hr.n7
    · intro v hv V hd
      refine kv_iload dX11_panel_80 rfl ?_
      refine kv_iconst dX11_panel_82 3 ki_3 ?_
      refine kv_icmp_ge dX11_panel_83 127 (by decide) (fun h2 => ?_) (fun h2 => ?_)
      · refine kv_iload dX11_panel_127 rfl ?_
        exact kv_iret dX11_panel_129 rfl (by rw [hS]; exact ⟨rfl, hv, fun b hb => funext fun k => V b k (by omega), hx.now ho (hr.draw_ hg (fun i hi => kSet_n hi) V (by rw [hd, kSet_s])) (fun b k hb _ => V b k (by omega))⟩)
      · exact absurd (Int32.le_refl (nI 3)) h2
    · intro v hv V hd
      obtain ⟨i1, i2, i3⟩ := hI i (by omega)
      have hq := kPan_q i2
      have hp : (kX16 (kDw (kPanA (a 0 7) (kM0 (a 0) x) i).1) % kCt (kPanA (a 0 7) (kM0 (a 0) x) i).2.1 11) < kCt (kPanA (a 0 7) (kM0 (a 0) x) i).2.1 11 := Nat.mod_lt _ (by omega)
      have hf := kPan_f i2 hp
      have hb := kCt_b (kPanA (a 0 7) (kM0 (a 0) x) i).2.1 11
      have bc : kBC (nI (kPanA (a 0 7) (kM0 (a 0) x) i).2.1) = nI (kCt (kPanA (a 0 7) (kM0 (a 0) x) i).2.1 11) := by rw [kBC_e (by omega), kBits_ct 24 (by omega), hq.1]
      refine kv_iload dX11_panel_80 rfl ?_
      refine kv_iconst dX11_panel_82 3 ki_3 ?_
      refine kv_icmp_ge dX11_panel_83 127 (by decide) (fun h3 => ?_) (fun h3 => ?_)
      · exact absurd h3 (kn_ge (n := 3) hi (by omega))
      · refine kv_iload dX11_panel_86 rfl ?_
        refine kv_aload_n dX11_panel_88 rfl ?_
        refine kw_gR dX11_panel_89 fX11_12 hv (by first | rfl | assumption) rfl rfl (by first | rfl | assumption) ?_
        refine kv_iload dX11_panel_92 rfl ?_
        refine kw_Si [_] mJ6_bitCount_0f7a4 dX11_panel_94 lX11_330 wJ6_bitCount_0f7a4 rfl rfl rfl (qJ6_bitCount_0f7a4 hv _) (by decide) ?_
        rw [bc]
        refine kw_Vi [_] mX7_draw dX11_panel_97 lX11_335 wX7_draw kC7 hv rfl (by first | rfl | assumption) rfl rfl rfl (qX7_draw hv (kCt (kPanA (a 0 7) (kM0 (a 0) x) i).2.1 11) (by omega) (by omega)) (by decide) ?_
        rw [hd]
        refine kw_Si [_, _] mX11_bitAt dX11_panel_100 lX11_338 wX11_bitAt rfl rfl rfl (qX11_bitAt (by exact hv) (kPanA (a 0 7) (kM0 (a 0) x) i).2.1 (kX16 (kDw (kPanA (a 0 7) (kM0 (a 0) x) i).1) % kCt (kPanA (a 0 7) (kM0 (a 0) x) i).2.1 11) i2 (by omega)) (by decide) ?_
        refine kv_istore (ls2 := [_, _, _, _, _, _, _, _]) dX11_panel_103 rfl rfl rfl rfl ?_
        refine kv_iload dX11_panel_105 rfl ?_
        refine kv_iload dX11_panel_107 rfl ?_
        refine kv_ior dX11_panel_109 ?_
        refine kv_istore (ls2 := [_, _, _, _, _, _, _, _]) dX11_panel_110 rfl rfl rfl rfl ?_
        refine kv_iload dX11_panel_112 rfl ?_
        refine kv_iload dX11_panel_114 rfl ?_
        refine kv_iconst dX11_panel_116 (-1) ki_m1 ?_
        refine kv_ixor dX11_panel_117 ?_
        refine kv_iand dX11_panel_118 ?_
        refine kv_istore (ls2 := [_, _, _, _, _, _, _, _]) dX11_panel_119 rfl rfl rfl rfl ?_
        refine kv_iinc (ls2 := [_, _, _, _, _, _, _, _]) dX11_panel_121 (nI (i + 1)) rfl (kv_inc1 i) rfl rfl rfl rfl ?_
        refine kv_goto dX11_panel_124 80 (by decide) ?_
        refine KV.loc (ih _ hv (fun b k q => by rw [kv_si_n q]; exact V b k q) (by rw [kv_si_s]; rfl)) (ksS (by first | rfl | exact congrArg (fun z => some (Value.int z)) ((congrArg (fun z => nI (kPanA (a 0 7) (kM0 (a 0) x) i).2.1 &&& (z ^^^ (-1))) (congrArg nI hf.2.2.2.1)).trans ((kb_andn _ _).trans (by rw [kn_and, kn_xor]; rfl))) | exact congrArg (fun z => some (Value.int z)) ((kn_or _ _).trans (by rw [hf.2.2.2.1]; rfl))) (ksS (by first | rfl | exact congrArg (fun z => some (Value.int z)) ((congrArg (fun z => nI (kPanA (a 0 7) (kM0 (a 0) x) i).2.1 &&& (z ^^^ (-1))) (congrArg nI hf.2.2.2.1)).trans ((kb_andn _ _).trans (by rw [kn_and, kn_xor]; rfl))) | exact congrArg (fun z => some (Value.int z)) ((kn_or _ _).trans (by rw [hf.2.2.2.1]; rfl))) (ksS (by first | rfl | exact congrArg (fun z => some (Value.int z)) ((congrArg (fun z => nI (kPanA (a 0 7) (kM0 (a 0) x) i).2.1 &&& (z ^^^ (-1))) (congrArg nI hf.2.2.2.1)).trans ((kb_andn _ _).trans (by rw [kn_and, kn_xor]; rfl))) | exact congrArg (fun z => some (Value.int z)) ((kn_or _ _).trans (by rw [hf.2.2.2.1]; rfl))) (ksS (by first | rfl | exact congrArg (fun z => some (Value.int z)) ((congrArg (fun z => nI (kPanA (a 0 7) (kM0 (a 0) x) i).2.1 &&& (z ^^^ (-1))) (congrArg nI hf.2.2.2.1)).trans ((kb_andn _ _).trans (by rw [kn_and, kn_xor]; rfl))) | exact congrArg (fun z => some (Value.int z)) ((kn_or _ _).trans (by rw [hf.2.2.2.1]; rfl))) (ksS (by first | rfl | exact congrArg (fun z => some (Value.int z)) ((congrArg (fun z => nI (kPanA (a 0 7) (kM0 (a 0) x) i).2.1 &&& (z ^^^ (-1))) (congrArg nI hf.2.2.2.1)).trans ((kb_andn _ _).trans (by rw [kn_and, kn_xor]; rfl))) | exact congrArg (fun z => some (Value.int z)) ((kn_or _ _).trans (by rw [hf.2.2.2.1]; rfl))) (ksS (by first | rfl | exact congrArg (fun z => some (Value.int z)) ((congrArg (fun z => nI (kPanA (a 0 7) (kM0 (a 0) x) i).2.1 &&& (z ^^^ (-1))) (congrArg nI hf.2.2.2.1)).trans ((kb_andn _ _).trans (by rw [kn_and, kn_xor]; rfl))) | exact congrArg (fun z => some (Value.int z)) ((kn_or _ _).trans (by rw [hf.2.2.2.1]; rfl))) (ksS (by first | rfl | exact congrArg (fun z => some (Value.int z)) ((congrArg (fun z => nI (kPanA (a 0 7) (kM0 (a 0) x) i).2.1 &&& (z ^^^ (-1))) (congrArg nI hf.2.2.2.1)).trans ((kb_andn _ _).trans (by rw [kn_and, kn_xor]; rfl))) | exact congrArg (fun z => some (Value.int z)) ((kn_or _ _).trans (by rw [hf.2.2.2.1]; rfl))) (ks0 ksN))))))))
  · rw [hr.n2] at h1
    have hS : kpanel a p0 = (-1000001, kF a 1) := if_pos h1
    refine kv_aload_n dX11_panel_8 rfl ?_
    refine kv_ldc dX11_panel_9 kX11_74 ?_
    refine kw_Vi [_] mX11_refuse dX11_panel_11 lX11_75 wX11_refuse kC11 hu rfl (by first | rfl | assumption) rfl rfl rfl (qX11_refuse (by exact hu) 1 (by decide) (by decide) _ (by decide)) (by decide) ?_
    exact kv_iret dX11_panel_14 rfl (by rw [hS]; exact kOX.no hx ho hu (by decide) rfl)

theorem kPanA_s (x0 : Int32) (m0 i : Nat) : kPanA x0 m0 (i + 1) = (kDw (kPanA x0 m0 i).1, (kPanA x0 m0 i).2.1 ^^^ ((kPanA x0 m0 i).2.1 &&& 2 ^ kIx (kPanA x0 m0 i).2.1 (kX16 (kDw (kPanA x0 m0 i).1) % kCt (kPanA x0 m0 i).2.1 11)), (kPanA x0 m0 i).2.2 ||| 2 ^ kIx (kPanA x0 m0 i).2.1 (kX16 (kDw (kPanA x0 m0 i).1) % kCt (kPanA x0 m0 i).2.1 11)) := rfl
set_option maxRecDepth 20000 in
set_option maxHeartbeats 4000000 in
theorem qX12_panel {w : KW} {l : Launch} {u : KMem} (hu : kWd u) {a : KA} (hm : kRM a u) (ho : kOk a) (p0 : Int32) : KC w l mX12_panel 2 0 0 [.ref 413, .int p0] u (kOM u (kpanel a p0).1 (kpanel a p0).2) := by
  have eg := hm.1
  have hg := ho.1
  have hx20 := (hg.cnt (k := 2) rfl).2
  have hc30 := (hg.cnt (k := 0) rfl).2
  have ht10 := (hg.cnt (k := 3) rfl).2
  have he40 := (hg.cnt (k := 4) rfl).2
  have hs16 := hg.cnt (k := 1) rfl
  refine KC.of (ls := [_, _, _, _, _, _, _]) rfl rfl (Nat.le_of_ble_eq_true rfl) ?_
  refine kv_aload_n dX12_panel_0 rfl ?_
  refine kv_iload_n dX12_panel_1 rfl ?_
  refine kv_iconst dX12_panel_2 2 ki_2 ?_
  refine kw_Vi [_, _] mX12_is dX12_panel_3 lX12_93 wX12_is kC12 hu rfl (by first | rfl | assumption) rfl rfl rfl (gX12_is hu eg _ 2 (by omega)) (by decide) ?_
  refine kw_bne dX12_panel_6 16 (by decide) (fun h1 => ?_) (fun h1 => ?_)
  · have n1 : ¬ kOut p0 0 (a 0 2 - 1) := kIn_y h1
    have hS : kpanel a p0 = _ := if_neg n1
    obtain ⟨x, hx2, rfl⟩ := hg.at (k := 2) rfl n1
    rw [nI_clamp (by omega)] at hS
    have c0 := hg.insX hx2 (s := 0) (by omega)
    have c1 := hg.insX hx2 (s := 1) (by omega)
    have k0 : 9 ≤ kCt (kM0 (a 0) x) 11 ∧ kM0 (a 0) x < 2048 ∧ (2 ^ (kN (a 0) (40 + 8 * kCarOf (a 0) x 0 + 0)) ||| 2 ^ (kN (a 0) (40 + 8 * kCarOf (a 0) x 1 + 0))) = 2047 ^^^ kM0 (a 0) x := kPan_0 _ c0.2.2.2 _ c1.2.2.2
    have hI := fun i (hi : i ≤ 3) => kPanA_i (x0 := a 0 7) k0.1 k0.2.1 k0.2.2 i hi
    refine kv_iconst dX12_panel_16 1 ki_1 ?_
    refine kv_aload_n dX12_panel_17 rfl ?_
    refine kv_aload_n dX12_panel_18 rfl ?_
    refine kv_iload_n dX12_panel_19 rfl ?_
    refine kv_iconst dX12_panel_20 0 ki_0 ?_
    refine kw_Vi [_, _] mX12_carOf dX12_panel_21 lX12_116 wX12_carOf kC12 hu rfl (by first | rfl | assumption) rfl rfl rfl (gX12_carOf hu eg x 0 (by omega) (by omega)) (by decide) ?_
    rw [c0.1]
    refine kv_iconst dX12_panel_24 0 ki_0 ?_
    refine kw_Vi [_, _] mX12_car dX12_panel_25 lX12_89 wX12_car kC12 hu rfl (by first | rfl | assumption) rfl rfl rfl (gX12_car hu eg (kCarOf (a 0) x 0) 0 (by omega) (by omega)) (by decide) ?_
    rw [c0.2.2.1]
    refine kv_ishl dX12_panel_28 ?_
    rw [kn_pow _ (by have := c0.2.2.2; omega)]
    refine kv_iconst dX12_panel_29 1 ki_1 ?_
    refine kv_aload_n dX12_panel_30 rfl ?_
    refine kv_aload_n dX12_panel_31 rfl ?_
    refine kv_iload_n dX12_panel_32 rfl ?_
    refine kv_iconst dX12_panel_33 1 ki_1 ?_
    refine kw_Vi [_, _] mX12_carOf dX12_panel_34 lX12_116 wX12_carOf kC12 hu rfl (by first | rfl | assumption) rfl rfl rfl (gX12_carOf hu eg x 1 (by omega) (by omega)) (by decide) ?_
    rw [c1.1]
    refine kv_iconst dX12_panel_37 0 ki_0 ?_
    refine kw_Vi [_, _] mX12_car dX12_panel_38 lX12_89 wX12_car kC12 hu rfl (by first | rfl | assumption) rfl rfl rfl (gX12_car hu eg (kCarOf (a 0) x 1) 0 (by omega) (by omega)) (by decide) ?_
    rw [c1.2.2.1]
    refine kv_ishl dX12_panel_41 ?_
    rw [kn_pow _ (by have := c1.2.2.2; omega)]
    refine kv_ior dX12_panel_42 ?_
    rw [kn_or]
    refine kv_istore_n (ls2 := [_, _, _, _, _, _, _]) dX12_panel_43 rfl rfl rfl rfl ?_
    refine kv_iconst dX12_panel_44 0 ki_0 ?_
    refine kv_istore_n (ls2 := [_, _, _, _, _, _, _]) dX12_panel_45 rfl rfl rfl rfl ?_
    refine kv_iconst dX12_panel_46 0 ki_0 ?_
    refine kv_istore (ls2 := [_, _, _, _, _, _, _]) dX12_panel_47 rfl rfl rfl rfl ?_
    refine KV.loc (ls2 := [some (.ref 413), some (.int (nI x)), some (.int (nI (2 ^ (kN (a 0) (40 + 8 * kCarOf (a 0) x 0 + 0)) ||| 2 ^ (kN (a 0) (40 + 8 * kCarOf (a 0) x 1 + 0))))), some (.int (nI (kPanA (a 0 7) (kM0 (a 0) x) (0)).2.2)), some (.int (nI (0))), none, none]) ?_ (ksS (by first | rfl | exact congrArg (fun z => some (Value.int z)) ((congrArg (fun z => nI d ||| z) (kn_pow _ (by omega))).trans (kn_or _ _))) (ksS (by first | rfl | exact congrArg (fun z => some (Value.int z)) ((congrArg (fun z => nI d ||| z) (kn_pow _ (by omega))).trans (kn_or _ _))) (ksS (by first | rfl | exact congrArg (fun z => some (Value.int z)) ((congrArg (fun z => nI d ||| z) (kn_pow _ (by omega))).trans (kn_or _ _))) (ksS (by first | rfl | exact congrArg (fun z => some (Value.int z)) ((congrArg (fun z => nI d ||| z) (kn_pow _ (by omega))).trans (kn_or _ _))) (ksS (by first | rfl | exact congrArg (fun z => some (Value.int z)) ((congrArg (fun z => nI d ||| z) (kn_pow _ (by omega))).trans (kn_or _ _))) (ks0 (ks0 ksN)))))))
    refine kn_loop (P := fun i => ∀ v : KMem, kWd v → v.2.1 414 = kSet (a 0) 7 (kPanA (a 0 7) (kM0 (a 0) x) i).1 → (∀ b, b ≠ 414 → v.2.1 b = u.2.1 b) → KV w l mX12_panel 2 0 0 49 [some (.ref 413), some (.int (nI x)), some (.int (nI (2 ^ (kN (a 0) (40 + 8 * kCarOf (a 0) x 0 + 0)) ||| 2 ^ (kN (a 0) (40 + 8 * kCarOf (a 0) x 1 + 0))))), some (.int (nI (kPanA (a 0 7) (kM0 (a 0) x) i).2.2)), some (.int (nI i)), none, none] [] v (kOM u (kpanel a (nI x)).1 (kpanel a (nI x)).2)) (3) ?_ (fun i hi ih => ?_) u hu (hm.1.trans (kSet_id 7).symm) (fun b _ => rfl)
    · intro v hv egv evv
      refine kv_iload dX12_panel_49 rfl ?_
      refine kv_iconst dX12_panel_51 3 ki_3 ?_
      refine kv_icmp_ge dX12_panel_52 129 (by decide) (fun h2 => ?_) (fun h2 => ?_)
      · refine kv_iload_n dX12_panel_129 rfl ?_
        exact kv_iret dX12_panel_130 rfl (by rw [hS]; exact ⟨rfl, hv, fun b hb => evv b (by omega), hm.now egv (fun b hb => evv b (by omega)) (evv 413 (by omega))⟩)
      · exact absurd (Int32.le_refl (nI 3)) h2
    · intro v hv egv evv
      obtain ⟨i1, i2, i3⟩ := hI i (by omega)
      rw [kPanA_s] at ih
      generalize kPanA (a 0 7) (kM0 (a 0) x) i = st at *
      obtain ⟨wd, m, d⟩ := st
      dsimp only at *
      have hq := kPan_q i2
      have hp : (kX16 (kDw wd) % kCt m 11) < kCt m 11 := Nat.mod_lt _ (by omega)
      have hf := kPan_f i2 hp
      have hb := kCt_b m 11
      have bc : (11 : Int32) - kBits (nI (2047 ^^^ m)) 24 = nI (kCt m 11) := by rw [kBits_ct 24 (by omega)]; exact (kn_sub (show (11 : Int32) = nI 11 from rfl) rfl (by omega)).trans (congrArg nI (by omega))
      refine kv_iload dX12_panel_49 rfl ?_
      refine kv_iconst dX12_panel_51 3 ki_3 ?_
      refine kv_icmp_ge dX12_panel_52 129 (by decide) (fun h3 => ?_) (fun h3 => ?_)
      · exact absurd h3 (kn_ge (n := 3) hi (by omega))
      · refine kv_aload_n dX12_panel_55 rfl ?_
        refine kv_bipush dX12_panel_56 11 kb_11 ?_
        refine kv_iload_n dX12_panel_58 rfl ?_
        refine kv_iload_n dX12_panel_59 rfl ?_
        refine kv_ior dX12_panel_60 ?_
        rw [show (nI (2 ^ (kN (a 0) (40 + 8 * kCarOf (a 0) x 0 + 0)) ||| 2 ^ (kN (a 0) (40 + 8 * kCarOf (a 0) x 1 + 0))) ||| nI d : Int32) = nI (2047 ^^^ m) from (kn_or _ _).trans (congrArg nI i3)]
        refine kw_Si [_] mX12_bits dX12_panel_61 lX12_149 wX12_bits rfl rfl rfl (qX12_bits (by exact hv) _) (by decide) ?_
        refine kv_isub dX12_panel_64 ?_
        rw [bc]
        refine kw_VQ [_] mX12_drawn dX12_panel_65 lX12_324 wX12_drawn kC12 hv rfl (by first | rfl | assumption) rfl rfl rfl (qX12_drawn hv egv (kCt m 11) (by omega) (by omega)) (by decide) (fun _ v1 q1 => ?_)
        obtain ⟨rfl, hv1, ed1, ev1⟩ := q1
        refine kv_istore (ls2 := [_, _, _, _, _, _, _]) dX12_panel_68 rfl rfl rfl rfl ?_
        refine kv_iconst dX12_panel_70 0 ki_0 ?_
        refine kv_istore (ls2 := [_, _, _, _, _, _, _]) dX12_panel_71 rfl rfl rfl rfl ?_
        refine KV.loc (ls2 := [some (.ref 413), some (.int (nI x)), some (.int (nI (2 ^ (kN (a 0) (40 + 8 * kCarOf (a 0) x 0 + 0)) ||| 2 ^ (kN (a 0) (40 + 8 * kCarOf (a 0) x 1 + 0))))), some (.int (nI d)), some (.int (nI i)), some (.int (nI ((kX16 (kDw wd) % kCt m 11) - kCt m (0)))), some (.int (nI (0)))]) ?_ (ksS rfl (ksS rfl (ksS rfl (ksS rfl (ksS rfl (ksS (congrArg (fun z => some (Value.int (nI z))) (Nat.sub_zero _).symm) (ksS rfl ksN)))))))
        refine kn_loop (P := fun j => KV w l mX12_panel 2 0 0 73 [some (.ref 413), some (.int (nI x)), some (.int (nI (2 ^ (kN (a 0) (40 + 8 * kCarOf (a 0) x 0 + 0)) ||| 2 ^ (kN (a 0) (40 + 8 * kCarOf (a 0) x 1 + 0))))), some (.int (nI d)), some (.int (nI i)), some (.int (nI ((kX16 (kDw wd) % kCt m 11) - kCt m j))), some (.int (nI j))] [] v1 (kOM u (kpanel a (nI x)).1 (kpanel a (nI x)).2)) (kIx m (kX16 (kDw wd) % kCt m 11)) ?_ (fun j hj ih => ?_)
        · refine kv_iload_n dX12_panel_73 rfl ?_
          refine kv_iload_n dX12_panel_74 rfl ?_
          refine kv_ior dX12_panel_75 ?_
          rw [show (nI (2 ^ (kN (a 0) (40 + 8 * kCarOf (a 0) x 0 + 0)) ||| 2 ^ (kN (a 0) (40 + 8 * kCarOf (a 0) x 1 + 0))) ||| nI d : Int32) = nI (2047 ^^^ m) from (kn_or _ _).trans (congrArg nI i3)]
          refine kv_iload dX12_panel_76 rfl ?_
          refine kw_Si [_, _] mX12_has dX12_panel_78 lX12_128 wX12_has rfl rfl rfl (qX12_has (by exact hv1) _ _) (by decide) ?_
          refine kw_bne dX12_panel_81 89 (by decide) (fun h4 => ?_) (fun h4 => ?_)
          · exact absurd h4 (fun q => by have := (kXor_bit i2 (by omega)).mp ((kHas_ct (by omega)).mp q); omega)
          · refine kv_iload dX12_panel_84 rfl ?_
            refine kv_if_le dX12_panel_86 116 (by decide) (fun h5 => ?_) (fun h5 => ?_)
            · refine kv_iload_n dX12_panel_116 rfl ?_
              refine kv_iconst dX12_panel_117 1 ki_1 ?_
              refine kv_iload dX12_panel_118 rfl ?_
              refine kv_ishl dX12_panel_120 ?_
              refine kv_ior dX12_panel_121 ?_
              refine kv_istore_n (ls2 := [_, _, _, _, _, _, _]) dX12_panel_122 rfl rfl rfl rfl ?_
              refine kv_iinc (ls2 := [_, _, _, _, _, _, _]) dX12_panel_123 (nI (i + 1)) rfl (kv_inc1 i) rfl rfl rfl rfl ?_
              refine kv_goto dX12_panel_126 49 (by decide) ?_
              refine KV.loc (ih _ hv1 (by rw [ed1, kSet_set, kSet_s]) (fun b hb => (ev1 b hb).trans (evv b hb))) (ksS (by first | rfl | exact congrArg (fun z => some (Value.int z)) ((congrArg (fun z => nI d ||| z) (kn_pow _ (by omega))).trans (kn_or _ _))) (ksS (by first | rfl | exact congrArg (fun z => some (Value.int z)) ((congrArg (fun z => nI d ||| z) (kn_pow _ (by omega))).trans (kn_or _ _))) (ksS (by first | rfl | exact congrArg (fun z => some (Value.int z)) ((congrArg (fun z => nI d ||| z) (kn_pow _ (by omega))).trans (kn_or _ _))) (ksS (by first | rfl | exact congrArg (fun z => some (Value.int z)) ((congrArg (fun z => nI d ||| z) (kn_pow _ (by omega))).trans (kn_or _ _))) (ksS (by first | rfl | exact congrArg (fun z => some (Value.int z)) ((congrArg (fun z => nI d ||| z) (kn_pow _ (by omega))).trans (kn_or _ _))) (ks0 (ks0 ksN)))))))
            · exact absurd h5 (fun q => q (by rw [hf.2.1, Nat.sub_self]; exact Int32.le_refl _))
        · have hgo := kIx_go i2 hp hj
          have hx11 : j < 11 := by omega
          have e1 : kCt m (j + 1) = kCt m j + (m >>> j) % 2 := rfl
          refine kv_iload_n dX12_panel_73 rfl ?_
          refine kv_iload_n dX12_panel_74 rfl ?_
          refine kv_ior dX12_panel_75 ?_
          rw [show (nI (2 ^ (kN (a 0) (40 + 8 * kCarOf (a 0) x 0 + 0)) ||| 2 ^ (kN (a 0) (40 + 8 * kCarOf (a 0) x 1 + 0))) ||| nI d : Int32) = nI (2047 ^^^ m) from (kn_or _ _).trans (congrArg nI i3)]
          refine kv_iload dX12_panel_76 rfl ?_
          refine kw_Si [_, _] mX12_has dX12_panel_78 lX12_128 wX12_has rfl rfl rfl (qX12_has (by exact hv1) _ _) (by decide) ?_
          refine kw_bne dX12_panel_81 89 (by decide) (fun h6 => ?_) (fun h6 => ?_)
          · have hz := (kXor_bit i2 (by omega)).mp ((kHas_ct (by omega)).mp h6)
            refine kv_iload dX12_panel_89 rfl ?_
            refine kv_iload_n dX12_panel_91 rfl ?_
            refine kv_iload_n dX12_panel_92 rfl ?_
            refine kv_ior dX12_panel_93 ?_
            rw [show (nI (2 ^ (kN (a 0) (40 + 8 * kCarOf (a 0) x 0 + 0)) ||| 2 ^ (kN (a 0) (40 + 8 * kCarOf (a 0) x 1 + 0))) ||| nI d : Int32) = nI (2047 ^^^ m) from (kn_or _ _).trans (congrArg nI i3)]
            refine kv_iload dX12_panel_94 rfl ?_
            refine kw_Si [_, _] mX12_has dX12_panel_96 lX12_128 wX12_has rfl rfl rfl (qX12_has (by exact hv1) _ _) (by decide) ?_
            refine kw_beq dX12_panel_99 106 (by decide) (fun h7 => ?_) (fun h7 => ?_)
            · exact absurd ((kHas_ct (by omega)).mpr ((kXor_bit i2 (by omega)).mpr hz)) h7
            · refine kv_iconst dX12_panel_102 0 ki_0 ?_
              refine kv_goto dX12_panel_103 107 (by decide) ?_
              refine kv_isub dX12_panel_107 ?_
              refine kv_istore (ls2 := [_, _, _, _, _, _, _]) dX12_panel_108 rfl rfl rfl rfl ?_
              refine kv_iinc (ls2 := [_, _, _, _, _, _, _]) dX12_panel_110 (nI (j + 1)) rfl (kv_inc1 j) rfl rfl rfl rfl ?_
              refine kv_goto dX12_panel_113 73 (by decide) ?_
              exact KV.loc ih (ksS (by first | rfl | exact congrArg (fun z => some (Value.int z)) ((kn_sub rfl (show (0 : Int32) = nI 0 from rfl) (by omega)).trans (congrArg nI (by omega))) | exact congrArg (fun z => some (Value.int z)) ((kn_sub rfl (show (1 : Int32) = nI 1 from rfl) (by omega)).trans (congrArg nI (by omega)))) (ksS (by first | rfl | exact congrArg (fun z => some (Value.int z)) ((kn_sub rfl (show (0 : Int32) = nI 0 from rfl) (by omega)).trans (congrArg nI (by omega))) | exact congrArg (fun z => some (Value.int z)) ((kn_sub rfl (show (1 : Int32) = nI 1 from rfl) (by omega)).trans (congrArg nI (by omega)))) (ksS (by first | rfl | exact congrArg (fun z => some (Value.int z)) ((kn_sub rfl (show (0 : Int32) = nI 0 from rfl) (by omega)).trans (congrArg nI (by omega))) | exact congrArg (fun z => some (Value.int z)) ((kn_sub rfl (show (1 : Int32) = nI 1 from rfl) (by omega)).trans (congrArg nI (by omega)))) (ksS (by first | rfl | exact congrArg (fun z => some (Value.int z)) ((kn_sub rfl (show (0 : Int32) = nI 0 from rfl) (by omega)).trans (congrArg nI (by omega))) | exact congrArg (fun z => some (Value.int z)) ((kn_sub rfl (show (1 : Int32) = nI 1 from rfl) (by omega)).trans (congrArg nI (by omega)))) (ksS (by first | rfl | exact congrArg (fun z => some (Value.int z)) ((kn_sub rfl (show (0 : Int32) = nI 0 from rfl) (by omega)).trans (congrArg nI (by omega))) | exact congrArg (fun z => some (Value.int z)) ((kn_sub rfl (show (1 : Int32) = nI 1 from rfl) (by omega)).trans (congrArg nI (by omega)))) (ksS (by first | rfl | exact congrArg (fun z => some (Value.int z)) ((kn_sub rfl (show (0 : Int32) = nI 0 from rfl) (by omega)).trans (congrArg nI (by omega))) | exact congrArg (fun z => some (Value.int z)) ((kn_sub rfl (show (1 : Int32) = nI 1 from rfl) (by omega)).trans (congrArg nI (by omega)))) (ksS (by first | rfl | exact congrArg (fun z => some (Value.int z)) ((kn_sub rfl (show (0 : Int32) = nI 0 from rfl) (by omega)).trans (congrArg nI (by omega))) | exact congrArg (fun z => some (Value.int z)) ((kn_sub rfl (show (1 : Int32) = nI 1 from rfl) (by omega)).trans (congrArg nI (by omega)))) ksN)))))))
          · have hz : (m >>> j) % 2 = 1 := by
              have h0 : ¬ (m >>> j) % 2 = 0 := fun q => h6 ((kHas_ct (by omega)).mpr ((kXor_bit i2 (by omega)).mpr q))
              omega
            refine kv_iload dX12_panel_84 rfl ?_
            refine kv_if_le dX12_panel_86 116 (by decide) (fun h8 => ?_) (fun h8 => ?_)
            · exact absurd h8 (nI_ge (a := 0) (by omega) (by have := kX16_lt (kDw wd); omega))
            · refine kv_iload dX12_panel_89 rfl ?_
              refine kv_iload_n dX12_panel_91 rfl ?_
              refine kv_iload_n dX12_panel_92 rfl ?_
              refine kv_ior dX12_panel_93 ?_
              rw [show (nI (2 ^ (kN (a 0) (40 + 8 * kCarOf (a 0) x 0 + 0)) ||| 2 ^ (kN (a 0) (40 + 8 * kCarOf (a 0) x 1 + 0))) ||| nI d : Int32) = nI (2047 ^^^ m) from (kn_or _ _).trans (congrArg nI i3)]
              refine kv_iload dX12_panel_94 rfl ?_
              refine kw_Si [_, _] mX12_has dX12_panel_96 lX12_128 wX12_has rfl rfl rfl (qX12_has (by exact hv1) _ _) (by decide) ?_
              refine kw_beq dX12_panel_99 106 (by decide) (fun h9 => ?_) (fun h9 => ?_)
              · refine kv_iconst dX12_panel_106 1 ki_1 ?_
                refine kv_isub dX12_panel_107 ?_
                refine kv_istore (ls2 := [_, _, _, _, _, _, _]) dX12_panel_108 rfl rfl rfl rfl ?_
                refine kv_iinc (ls2 := [_, _, _, _, _, _, _]) dX12_panel_110 (nI (j + 1)) rfl (kv_inc1 j) rfl rfl rfl rfl ?_
                refine kv_goto dX12_panel_113 73 (by decide) ?_
                exact KV.loc ih (ksS (by first | rfl | exact congrArg (fun z => some (Value.int z)) ((kn_sub rfl (show (0 : Int32) = nI 0 from rfl) (by omega)).trans (congrArg nI (by omega))) | exact congrArg (fun z => some (Value.int z)) ((kn_sub rfl (show (1 : Int32) = nI 1 from rfl) (by omega)).trans (congrArg nI (by omega)))) (ksS (by first | rfl | exact congrArg (fun z => some (Value.int z)) ((kn_sub rfl (show (0 : Int32) = nI 0 from rfl) (by omega)).trans (congrArg nI (by omega))) | exact congrArg (fun z => some (Value.int z)) ((kn_sub rfl (show (1 : Int32) = nI 1 from rfl) (by omega)).trans (congrArg nI (by omega)))) (ksS (by first | rfl | exact congrArg (fun z => some (Value.int z)) ((kn_sub rfl (show (0 : Int32) = nI 0 from rfl) (by omega)).trans (congrArg nI (by omega))) | exact congrArg (fun z => some (Value.int z)) ((kn_sub rfl (show (1 : Int32) = nI 1 from rfl) (by omega)).trans (congrArg nI (by omega)))) (ksS (by first | rfl | exact congrArg (fun z => some (Value.int z)) ((kn_sub rfl (show (0 : Int32) = nI 0 from rfl) (by omega)).trans (congrArg nI (by omega))) | exact congrArg (fun z => some (Value.int z)) ((kn_sub rfl (show (1 : Int32) = nI 1 from rfl) (by omega)).trans (congrArg nI (by omega)))) (ksS (by first | rfl | exact congrArg (fun z => some (Value.int z)) ((kn_sub rfl (show (0 : Int32) = nI 0 from rfl) (by omega)).trans (congrArg nI (by omega))) | exact congrArg (fun z => some (Value.int z)) ((kn_sub rfl (show (1 : Int32) = nI 1 from rfl) (by omega)).trans (congrArg nI (by omega)))) (ksS (by first | rfl | exact congrArg (fun z => some (Value.int z)) ((kn_sub rfl (show (0 : Int32) = nI 0 from rfl) (by omega)).trans (congrArg nI (by omega))) | exact congrArg (fun z => some (Value.int z)) ((kn_sub rfl (show (1 : Int32) = nI 1 from rfl) (by omega)).trans (congrArg nI (by omega)))) (ksS (by first | rfl | exact congrArg (fun z => some (Value.int z)) ((kn_sub rfl (show (0 : Int32) = nI 0 from rfl) (by omega)).trans (congrArg nI (by omega))) | exact congrArg (fun z => some (Value.int z)) ((kn_sub rfl (show (1 : Int32) = nI 1 from rfl) (by omega)).trans (congrArg nI (by omega)))) ksN)))))))
              · exact absurd h9 (fun q => by have := (kXor_bit i2 (by omega)).mp ((kHas_ct (by omega)).mp q); omega)
  · have hS : kpanel a p0 = (-1000001, kF a 1) := if_pos (kIn_n h1)
    refine kv_aload_n dX12_panel_9 rfl ?_
    refine kv_ldc dX12_panel_10 kX12_83 ?_
    refine kw_Vi [_] mX12_finding dX12_panel_12 lX12_84 wX12_finding kC12 hu rfl (by first | rfl | assumption) rfl rfl rfl (qX12_finding (by exact hu) 1 (by decide) (by decide) _ (by decide)) (by decide) ?_
    exact kv_iret dX12_panel_15 rfl (by rw [hS]; exact kOM.no hm hu rfl)

theorem kpanel_ok {a : KA} (ho : kOk a) (p0 : Int32) : kOk (kpanel a p0).2 := by
  unfold kpanel
  split
  · exact ho.fnd 1
  · exact ho.now (ho.1.draw_ (fun i hi => kSet_n hi))
