/-! treaty of the class -/
def kpLow (u v : KMem) : KMem := (v.1, (fun b k => if 193 ≤ b then u.2.1 b k else v.2.1 b k), v.2.2)
theorem kpLow_l {u v : KMem} {b k : Nat} (h : b < 193) : (kpLow u v).2.1 b k = v.2.1 b k := if_neg (by omega)
theorem kpLow_h {u v : KMem} {b k : Nat} (h : 193 ≤ b) : (kpLow u v).2.1 b k = u.2.1 b k := if_pos h
theorem kRS.unt {g g' : Nat → Int32} {u v : KMem} (h : kRS 1 g u) (hg : kGI g) (hg' : kGI g') (hn : kN g 3 < 10) (E : ∀ i, ¬ (i = 5) → g' i = g i) (V : ∀ b k, b < 193 → ¬ ((b = 1 ∧ k = 15) ∨ (1 + (132 + 2 * kN g 3) ≤ b ∧ b ≤ 1 + (132 + 2 * kN g 3 + 1))) → v.2.1 b k = u.2.1 b k) (C5 : v.2.1 1 15 = g' 5) (cn5 : kN g' 5 = 0) : kRS 1 g' v := by
  have := h.untape (v := kpLow u v) hg hn E (fun b k q => by
    by_cases z : b < 193
    · rw [kpLow_l z]; exact V b k z q
    · exact kpLow_h (by omega)) (by rw [kpLow_l (by omega)]; exact C5) cn5
  exact this.of (fun b k h1 h2 => (kpLow_l (by omega)).symm) hg'
theorem kRS.addT {g g' : Nat → Int32} {u v : KMem} (h : kRS 1 g u) (hg : kGI g) (hg' : kGI g') (hn : kN g 3 < 10) (E : ∀ i, ¬ (i = 3 ∨ i = 5 ∨ (468 + 66 * kN g 3 ≤ i ∧ i < 534 + 66 * kN g 3)) → g' i = g i) (V : ∀ b k, b < 193 → ¬ ((b = 1 ∧ (k = 9 ∨ k = 15)) ∨ (1 + (132 + 2 * kN g 3) ≤ b ∧ b ≤ 1 + (132 + 2 * kN g 3 + 1))) → v.2.1 b k = u.2.1 b k) (C3 : v.2.1 1 9 = g' 3) (cn3 : kN g' 3 = kN g 3 + 1) (C5 : v.2.1 1 15 = g' 5) (cn5 : kN g' 5 = 0) (hp : kXTreaty 1 g' v (kN g 3)) : kRS 1 g' v := by
  have := h.addTreaty (v := kpLow u v) hg hn E (fun b k q => by
    by_cases z : b < 193
    · rw [kpLow_l z]; exact V b k z q
    · exact kpLow_h (by omega)) (by rw [kpLow_l (by omega)]; exact C3) cn3 (by rw [kpLow_l (by omega)]; exact C5) cn5 (by
      obtain ⟨p1, p2, p3, p4⟩ := hp
      exact ⟨by rw [kpLow_l (by omega)]; exact p1, by rw [kpLow_l (by omega)]; exact p2, by rw [kpLow_l (by omega)]; exact p3, fun k hk => by rw [kpLow_l (by omega)]; exact p4 k hk⟩)
  exact this.of (fun b k h1 h2 => (kpLow_l (by omega)).symm) hg'
theorem kWd.kpW {u : KMem} (hu : kWd u) (t n : Nat) : kWd (kpW u t n) := by
  have h1 : kWd (kv_sr u 388 0 (some 11)) := hu.sr (by decide)
  exact kWd.sr (u := kv_si (kv_sr u 388 0 (some 11)) 388 1 (nI n)) (a := 388) (k := 2) (x := some (1 + (132 + 2 * t))) h1 (by decide)
def kpB (g : Nat → Int32) (i : Nat) : Int32 := g (1328 + i)
def kTrd (g : Nat → Int32) (use : Nat) : KPt := kpFin (kpB g) (kN g 5) (kpPr (kpB g) (kN g 5) use 36 0 0 (kpSk (kpB g) (kN g 5) 0, []))
def ktrG (g : Nat → Int32) (p0 p1 : Int32) (cs : List Int32) : Nat → Int32 := fun i =>
  if i = 3 then nI (kN g 3 + 1) else if i = 5 then 0 else if i = 468 + 66 * kN g 3 then p0 else if i = 468 + 66 * kN g 3 + 1 then p1 else if i = 468 + 66 * kN g 3 + 2 then nI cs.length
  else if 468 + 66 * kN g 3 + 3 ≤ i ∧ i < 468 + 66 * kN g 3 + 3 + cs.length then cs.getD (i - (468 + 66 * kN g 3 + 3)) 0 else g i
def ktreatyV (a : KA) (p0 p1 : Int32) : KPt → Int32 × KA
  | .error f => (-10 - nI f, kUp1 a 0 (kSet (a 0) 5 0))
  | .ok s => (nI (kN (a 0) 3), kUp1 a 0 (ktrG (a 0) p0 p1 s.2))
def ktreaty (a : KA) (p0 p1 : Int32) : Int32 × KA := if kOut p0 0 2 ∨ kOut p1 0 999 then (-1000001, kF a 1) else if kN (a 0) 3 < 10 then ktreatyV a p0 p1 (kTrd (a 0) p0.toNatClampNeg) else (-1000004, kF a 4)
theorem kTrd_ok {g : Nat → Int32} (hg : kGI g) {use : Nat} {s : KPs} (h : kTrd g use = .ok s) : s.2.length ≤ s.1 ∧ s.1 ≤ kN g 5 ∧ kpDpl s.2 = some 1 := by
  unfold kTrd kpFin at h
  obtain ⟨s1, h1, h2⟩ := kpBd_ok h
  have e : s1 = s := by
    by_cases q : kpWo (kpB g) (kN g 5) s1.1 = -1
    · rw [if_pos q] at h2; injection h2
    · rw [if_neg q] at h2; exact absurd h2 (by simp)
  subst e
  have hk := kpSk_le (B := kpB g) (Nat.zero_le (kN g 5))
  obtain ⟨g1, g2, g3, g4⟩ := kpPr_gd (B := kpB g) (fun i hi => hg.2.2.2.2.2.2.2.2 i hi) 36 _ _ _ _ (show (kpSk (kpB g) (kN g 5) 0, ([] : List Int32)).1 ≤ kN g 5 from hk.2) h1
  have g3' : s1.2.length + kpSk (kpB g) (kN g 5) 0 ≤ s1.1 + 0 := g3
  exact ⟨by omega, g2, g4 0 rfl⟩
theorem ktrG_n {g : Nat → Int32} {p0 p1 : Int32} {cs : List Int32} (hl : cs.length ≤ 60) {i : Nat} (h : ¬ (i = 3 ∨ i = 5 ∨ (468 + 66 * kN g 3 ≤ i ∧ i < 534 + 66 * kN g 3))) : ktrG g p0 p1 cs i = g i := by
  unfold ktrG
  rw [if_neg (by omega), if_neg (by omega), if_neg (by omega), if_neg (by omega), if_neg (by omega), if_neg (by omega)]
theorem ktrG_3 (g : Nat → Int32) (p0 p1 : Int32) (cs : List Int32) : ktrG g p0 p1 cs 3 = nI (kN g 3 + 1) := rfl
theorem ktrG_5 (g : Nat → Int32) (p0 p1 : Int32) (cs : List Int32) : ktrG g p0 p1 cs 5 = 0 := rfl
theorem ktrG_a (g : Nat → Int32) (p0 p1 : Int32) (cs : List Int32) : ktrG g p0 p1 cs (468 + 66 * kN g 3) = p0 := by unfold ktrG; rw [if_neg (by omega), if_neg (by omega), if_pos rfl]
theorem ktrG_b (g : Nat → Int32) (p0 p1 : Int32) (cs : List Int32) : ktrG g p0 p1 cs (468 + 66 * kN g 3 + 1) = p1 := by unfold ktrG; rw [if_neg (by omega), if_neg (by omega), if_neg (by omega), if_pos rfl]
theorem ktrG_c (g : Nat → Int32) (p0 p1 : Int32) (cs : List Int32) : ktrG g p0 p1 cs (468 + 66 * kN g 3 + 2) = nI cs.length := by unfold ktrG; rw [if_neg (by omega), if_neg (by omega), if_neg (by omega), if_neg (by omega), if_pos rfl]
theorem ktrG_cn (g : Nat → Int32) (p0 p1 : Int32) (cs : List Int32) (hl : cs.length ≤ 60) : kN (ktrG g p0 p1 cs) (468 + 66 * kN g 3 + 2) = cs.length := by
  show (ktrG g p0 p1 cs (468 + 66 * kN g 3 + 2)).toNatClampNeg = _
  rw [ktrG_c, nI_clamp (by omega)]
theorem ktrG_d (g : Nat → Int32) (p0 p1 : Int32) (cs : List Int32) {k : Nat} (hk : k < cs.length) : ktrG g p0 p1 cs (468 + 66 * kN g 3 + 3 + k) = cs.getD k 0 := by
  unfold ktrG
  rw [if_neg (by omega), if_neg (by omega), if_neg (by omega), if_neg (by omega), if_neg (by omega), if_pos (by omega), show 468 + 66 * kN g 3 + 3 + k - (468 + 66 * kN g 3 + 3) = k by omega]
theorem ktrG_gi {g : Nat → Int32} (hg : kGI g) (h3 : kN g 3 < 10) {p0 p1 : Int32} (n0 : kUp p0 2) (n1 : kUp p1 999) {use : Nat} {s : KPs} (h : kTrd g use = .ok s) : kGI (ktrG g p0 p1 s.2) := by
  obtain ⟨h1, h2, hd⟩ := kTrd_ok hg h
  have h5 := (hg.cnt (k := 5) rfl).2
  refine hg.addTreaty h3 (fun i hi => ktrG_n (by omega) hi) ⟨kN g 3 + 1, by omega, rfl⟩ ?_ ⟨0, by omega, rfl⟩ ?_ ⟨?_, ?_, ?_, ?_⟩
  · unfold kN; rw [ktrG_3, nI_clamp (by omega)]; rfl
  · unfold kN; rw [ktrG_5]; rfl
  · rw [ktrG_a]; exact n0
  · rw [ktrG_b]; exact n1
  · rw [ktrG_c]; exact ⟨_, by omega, rfl⟩
  · rw [ktrG_cn _ _ _ _ (by omega)]
    rw [kDep_c (f := fun k => s.2.getD k 0) (fun k hk => ktrG_d g p0 p1 s.2 hk)]
    exact hd
theorem kUnt_gi {g : Nat → Int32} (hg : kGI g) : kGI (kSet g 5 0) := hg.untape (fun i hi => kSet_n hi) ⟨0, by omega, kSet_s _ _ _⟩ (by unfold kN; rw [kSet_s]; rfl)
theorem ktreaty_ok {a : KA} (ho : kOk a) (p0 p1 : Int32) : kOk (ktreaty a p0 p1).2 := by
  unfold ktreaty
  split
  · exact ho.fnd 1
  · rename_i hn
    split
    · rename_i h3
      have u0 := kOut.bd (n := 2) (by omega) (fun q => hn (Or.inl q))
      have u1 := kOut.bd (n := 999) (by omega) (fun q => hn (Or.inr q))
      cases e : kTrd (a 0) p0.toNatClampNeg with
      | error f => exact ho.now (kUnt_gi ho.1)
      | ok s => exact ho.now (ktrG_gi ho.1 h3 u0 u1 e)
    · exact ho.fnd 4
set_option maxRecDepth 20000 in
set_option maxHeartbeats 4000000 in
theorem qX11_treaty {w : KW} {l : Launch} {u : KMem} (hu : kWd u) {a : KA} (hx : kRX a u) (ho : kOk a) (p0 p1 : Int32) : KC w l mX11_treaty 114 0 0 [.ref 0, .int p0, .int p1] u (kOX u (ktreaty a p0 p1).1 (ktreaty a p0 p1).2) := by
  have hr := hx.1
  have hg := ho.1
  have hx20 := (hg.cnt (k := 2) rfl).2
  have hc30 := (hg.cnt (k := 0) rfl).2
  have ht10 := (hg.cnt (k := 3) rfl).2
  have he40 := (hg.cnt (k := 4) rfl).2
  have hs16 := hg.cnt (k := 1) rfl
  have hw3 := hg.cnt (k := 3) rfl
  have hw5 := hg.cnt (k := 5) rfl
  refine KC.of (ls := [_, _, _, _, _, _]) rfl rfl (Nat.le_of_ble_eq_true rfl) ?_
  refine kv_iload_n dX11_treaty_0 rfl ?_
  refine kv_iconst dX11_treaty_1 0 ki_0 ?_
  refine kv_iconst dX11_treaty_2 2 ki_2 ?_
  refine kw_Si [_, _, _] mX11_outside dX11_treaty_3 lX11_69 wX11_outside rfl rfl rfl (qX11_outside (by exact hu) _ _ _) (by decide) ?_
  refine kw_bne dX11_treaty_6 20 (by decide) (fun h1 => ?_) (fun h1 => ?_)
  · have hS : ktreaty a p0 p1 = (-1000001, kF a 1) := if_pos (Or.inl h1)
    refine kv_aload_n dX11_treaty_20 rfl ?_
    refine kv_ldc dX11_treaty_21 kX11_74 ?_
    refine kw_Vi [_] mX11_refuse dX11_treaty_23 lX11_75 wX11_refuse kC11 hu rfl (by first | rfl | assumption) rfl rfl rfl (qX11_refuse (by exact hu) 1 (by decide) (by decide) _ (by decide)) (by decide) ?_
    exact kv_iret dX11_treaty_26 rfl (by rw [hS]; exact kOX.no hx ho hu (by decide) rfl)
  · have n1 : ¬ kOut p0 0 2 := h1
    refine kv_iload_n dX11_treaty_9 rfl ?_
    refine kv_iconst dX11_treaty_10 0 ki_0 ?_
    refine kv_sipush dX11_treaty_11 999 kz_999 ?_
    refine kw_Si [_, _, _] mX11_outside dX11_treaty_14 lX11_69 wX11_outside rfl rfl rfl (qX11_outside (by exact hu) _ _ _) (by decide) ?_
    refine kw_beq dX11_treaty_17 27 (by decide) (fun h2 => ?_) (fun h2 => ?_)
    · have n2 : ¬ kOut p1 0 999 := h2
      have hS : ktreaty a p0 p1 = _ := if_neg (fun q => q.elim n1 n2)
      obtain ⟨use, hus, rfl⟩ := kOut.bd (n := 2) (by omega) n1
      rw [nI_clamp (by omega)] at hS
      refine kv_aload_n dX11_treaty_27 rfl ?_
      refine kw_gR dX11_treaty_28 fX11_12 hu (by first | rfl | assumption) rfl rfl (by first | rfl | assumption) ?_
      refine kw_gI dX11_treaty_31 fX11_228 hu (by first | rfl | assumption) rfl rfl ?_
      rw [hr.n3, hw3.1]
      refine kv_istore_n (ls2 := [_, _, _, _, _, _]) dX11_treaty_34 rfl rfl rfl rfl ?_
      refine kv_iload_n dX11_treaty_35 rfl ?_
      refine kv_bipush dX11_treaty_36 10 kb_10 ?_
      refine kv_icmp_lt dX11_treaty_38 48 (by decide) (fun h3 => ?_) (fun h3 => ?_)
      · have h10 : kN (a 0) 3 < 10 := (nI_ltI (b := 10) (by omega) (by omega)).mp h3
        rw [if_pos h10] at hS
        obtain ⟨k1, k2, k3, k4⟩ := ks_treaty (kN (a 0) 3) h10
        have u1_ := kOut.bd (n := 999) (by omega) n2
        refine kv_aload_n dX11_treaty_48 rfl ?_
        refine kw_gR dX11_treaty_49 fX11_12 hu (by first | rfl | assumption) rfl rfl (by first | rfl | assumption) ?_
        refine kw_gR dX11_treaty_52 fX11_231 hu (by first | rfl | assumption) rfl rfl (by first | rfl | assumption) ?_
        refine kv_iload_n dX11_treaty_55 rfl ?_
        refine kw_al (t := 2) (n := 10) dX11_treaty_56 hu rfl rfl (kN (a 0) 3) rfl (by omega) rfl (by first | rfl | assumption) ?_
        refine kv_astore (ls2 := [_, _, _, _, _, _]) dX11_treaty_57 rfl rfl rfl rfl ?_
        refine kv_aload dX11_treaty_59 rfl ?_
        refine kv_iload_n dX11_treaty_61 rfl ?_
        refine kv_iload_n dX11_treaty_62 rfl ?_
        refine kw_Vv [_, _] mX9_become dX11_treaty_63 lX11_235 wX9_become kC9 hu rfl (by first | rfl | assumption) rfl rfl rfl (qX9_become hu h10 _ _) (by decide) ?_
        have hu1 : kWd (kv_si (kv_si (kv_si u (1 + (132 + 2 * kN (a 0) 3)) 2 (nI use)) (1 + (132 + 2 * kN (a 0) 3)) 3 p1) (1 + (132 + 2 * kN (a 0) 3)) 1 0) := hu
        refine kv_aload_n dX11_treaty_66 rfl ?_
        refine kw_gR dX11_treaty_67 fX11_31 hu1 (by first | rfl | assumption) rfl rfl (by first | rfl | assumption) ?_
        refine kv_aload_n dX11_treaty_70 rfl ?_
        refine kw_gR dX11_treaty_71 fX11_12 hu1 (by first | rfl | assumption) rfl rfl (by first | rfl | assumption) ?_
        refine kw_gR dX11_treaty_74 fX11_225 hu1 (by first | rfl | assumption) rfl rfl (by first | rfl | assumption) ?_
        refine kv_aload_n dX11_treaty_77 rfl ?_
        refine kw_gR dX11_treaty_78 fX11_12 hu1 (by first | rfl | assumption) rfl rfl (by first | rfl | assumption) ?_
        refine kw_gI dX11_treaty_81 fX11_222 hu1 (by first | rfl | assumption) rfl rfl ?_
        rw [kv_si_n (by omega), kv_si_n (by omega), kv_si_n (by omega), hr.n5, hw5.1]
        refine kv_aload dX11_treaty_84 rfl ?_
        refine kw_VQ [_, _, _] mX5_read dX11_treaty_86 lX11_240 wX5_read kC5 hu1 rfl (by first | rfl | assumption) rfl rfl rfl (qX5_read hu1 h10 (B := kpB (a 0)) (n := kN (a 0) 5) (use := use) hw5.2 (fun i hi => hg.2.2.2.2.2.2.2.2 i hi) (fun i hi => by rw [kv_si_n (by omega), kv_si_n (by omega), kv_si_n (by omega)]; exact hr.2.2.2.2.2.2.2.2.1 i hi) (by rw [kv_si_n (by omega), kv_si_n (by omega), kv_si_s]) (by omega) (kv_si_s _ _ _ _)) (by decide) (fun _ v2 q2 => ?_)
        obtain ⟨rfl, xr_⟩ := q2
        rw [show kpFin (kpB (a 0)) (kN (a 0) 5) (kpPr (kpB (a 0)) (kN (a 0) 5) use 36 0 0 (kpSk (kpB (a 0)) (kN (a 0) 5) 0, [])) = kTrd (a 0) use from rfl] at xr_
        rw [show kpFin (kpB (a 0)) (kN (a 0) 5) (kpPr (kpB (a 0)) (kN (a 0) 5) use 36 0 0 (kpSk (kpB (a 0)) (kN (a 0) 5) 0, [])) = kTrd (a 0) use from rfl]
        have hv2 := xr_.e.wd (hu1.kpW _ _)
        have V0 : ∀ b k, ¬ (b = 388 ∨ ((1 + (132 + 2 * kN (a 0) 3)) ≤ b ∧ b ≤ (1 + (132 + 2 * kN (a 0) 3)) + 1)) → v2.2.1 b k = u.2.1 b k := fun b k q => by
          rw [xr_.e.2.2.1 b k (by unfold kpA; omega)]
          unfold kpW
          rw [kv_si_n (by omega), kv_si_n (by omega), kv_sr_i, kv_si_n (by omega), kv_sr_i, kv_si_n (by omega), kv_si_n (by omega), kv_si_n (by omega)]
        refine kv_istore (ls2 := [_, _, _, _, _, _]) dX11_treaty_89 rfl rfl rfl rfl ?_
        refine kv_aload_n dX11_treaty_91 rfl ?_
        refine kw_gR dX11_treaty_92 fX11_12 hv2 (by first | rfl | assumption) rfl rfl (by first | rfl | assumption) ?_
        refine kv_iconst dX11_treaty_95 0 ki_0 ?_
        refine kw_pI dX11_treaty_96 fX11_222 hv2 (by first | rfl | assumption) rfl rfl ?_
        rcases hr_ : kTrd (a 0) use with f | s
        · rw [hr_] at xr_ hS
          have hf60 := xr_.2.2.1
          rw [show kpAns (.error f) = nI f from rfl]
          refine kv_iload dX11_treaty_99 rfl ?_
          refine kv_if_lt dX11_treaty_101 110 (by decide) (fun h4 => ?_) (fun h4 => ?_)
          · exact absurd h4 (nI_pos (by omega))
          · refine kv_bipush dX11_treaty_104 (-10) kb_m10 ?_
            refine kv_iload dX11_treaty_106 rfl ?_
            refine kv_isub dX11_treaty_108 ?_
            exact kv_iret dX11_treaty_109 rfl (by
                rw [hS]
                refine ⟨rfl, hv2, fun b hb => by rw [kv_si_row (by omega)]; exact funext fun k => V0 b k (by omega), hx.now ho (hr.unt hg (kUnt_gi hg) h10 (fun i hi => kSet_n hi) (fun b k hb q => by rw [kv_si_n (by omega)]; exact V0 b k (by omega)) (by rw [kv_si_s, kSet_s]) (by unfold kN; rw [kSet_s]; rfl)) (fun b k hb q => by rw [kv_si_n (by omega)]; exact V0 b k (by unfold kSX at q; omega))⟩)
        · rw [hr_] at xr_ hS
          obtain ⟨hE, g6, g4, g5, g3, gc, gs, hp, hsl⟩ := id xr_
          obtain ⟨o1, o2, o3⟩ := kTrd_ok hg hr_
          have hl60 : s.2.length ≤ 60 := by have := hw5.2; omega
          rw [show kpAns (.ok s) = -1 from rfl]
          refine kv_iload dX11_treaty_99 rfl ?_
          refine kv_if_lt dX11_treaty_101 110 (by decide) (fun h5 => ?_) (fun h5 => ?_)
          · refine kv_aload_n dX11_treaty_110 rfl ?_
            refine kw_gR dX11_treaty_111 fX11_12 hv2 (by first | rfl | assumption) rfl rfl (by first | rfl | assumption) ?_
            refine kv_iload_n dX11_treaty_114 rfl ?_
            refine kv_iconst dX11_treaty_115 1 ki_1 ?_
            refine kv_iadd dX11_treaty_116 ?_
            rw [show (nI (kN (a 0) 3) + 1 : Int32) = nI (kN (a 0) 3 + 1) from kn_add rfl (show (1 : Int32) = nI 1 from rfl)]
            refine kw_pI dX11_treaty_117 fX11_228 hv2 (by first | rfl | assumption) rfl rfl ?_
            refine kv_iload_n dX11_treaty_120 rfl ?_
            exact kv_iret dX11_treaty_121 rfl (by
                rw [hS]
                have hgi := ktrG_gi hg h10 (p0 := nI use) (p1 := p1) ⟨use, hus, rfl⟩ u1_ hr_
                have W2 : ∀ k, ¬ k = 1 → v2.2.1 (1 + (132 + 2 * kN (a 0) 3)) k = (kv_si (kv_si (kv_si u (1 + (132 + 2 * kN (a 0) 3)) 2 (nI use)) (1 + (132 + 2 * kN (a 0) 3)) 3 p1) (1 + (132 + 2 * kN (a 0) 3)) 1 0).2.1 (1 + (132 + 2 * kN (a 0) 3)) k := fun k q => by
                  rw [xr_.e.2.2.1 _ _ (by unfold kpA; omega)]
                  unfold kpW
                  rw [kv_si_n (by omega), kv_si_n (by omega), kv_sr_i, kv_si_n (by omega), kv_sr_i]
                refine ⟨rfl, hv2, fun b hb => by rw [kv_si_row (by omega), kv_si_row (by omega)]; exact funext fun k => V0 b k (by omega), hx.now ho (hr.addT hg hgi h10 (fun i hi => ktrG_n hl60 hi) (fun b k hb q => by rw [kv_si_n (by omega), kv_si_n (by omega)]; exact V0 b k (by omega)) (by rw [kv_si_s, ktrG_3]) (by unfold kN; rw [ktrG_3, nI_clamp (by omega)]; rfl) (by rw [kv_si_n (by omega), kv_si_s, ktrG_5]) (by unfold kN; rw [ktrG_5]; rfl) ⟨?_, ?_, ?_, fun k hk => ?_⟩) (fun b k hb q => by rw [kv_si_n (by omega), kv_si_n (by omega)]; exact V0 b k (by unfold kSX at q; omega))⟩
                · rw [kv_si_n (by omega), kv_si_n (by omega), ktrG_c]; exact gc
                · rw [kv_si_n (by omega), kv_si_n (by omega), ktrG_a, W2 _ (by omega), kv_si_n (by omega), kv_si_n (by omega), kv_si_s]
                · rw [kv_si_n (by omega), kv_si_n (by omega), ktrG_b, W2 _ (by omega), kv_si_n (by omega), kv_si_s]
                · have hk2 : k < s.2.length := by
                    rw [ktrG_cn _ _ _ _ hl60] at hk
                    exact hk
                  rw [kv_si_n (by omega), kv_si_n (by omega), ktrG_d _ _ _ _ hk2]
                  exact gs k hk2)
          · exact absurd (show (-1 : Int32) < 0 by decide) h5
      · rw [if_neg (fun q => h3 (nI_lt (b := 10) q (by omega)))] at hS
        refine kv_aload_n dX11_treaty_41 rfl ?_
        refine kv_ldc dX11_treaty_42 kX11_83 ?_
        refine kw_Vi [_] mX11_refuse dX11_treaty_44 lX11_75 wX11_refuse kC11 hu rfl (by first | rfl | assumption) rfl rfl rfl (qX11_refuse (by exact hu) 4 (by decide) (by decide) _ (by decide)) (by decide) ?_
        exact kv_iret dX11_treaty_47 rfl (by rw [hS]; exact kOX.no hx ho hu (by decide) rfl)
    · have hS : ktreaty a p0 p1 = (-1000001, kF a 1) := if_pos (Or.inr (h2))
      refine kv_aload_n dX11_treaty_20 rfl ?_
      refine kv_ldc dX11_treaty_21 kX11_74 ?_
      refine kw_Vi [_] mX11_refuse dX11_treaty_23 lX11_75 wX11_refuse kC11 hu rfl (by first | rfl | assumption) rfl rfl rfl (qX11_refuse (by exact hu) 1 (by decide) (by decide) _ (by decide)) (by decide) ?_
      exact kv_iret dX11_treaty_26 rfl (by rw [hS]; exact kOX.no hx ho hu (by decide) rfl)

