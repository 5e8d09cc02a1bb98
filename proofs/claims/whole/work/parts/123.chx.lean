/-! chain of the class -/
theorem kGetD_cons (x : Nat) (L : List Nat) (j : Nat) : (x :: L).getD (j + 1) 0 = L.getD j 0 := rfl
def kchainV (a : KA) (s m : Nat) (off p : Int32) : Int32 × KA := if p = 0 then (nI (kTn (kDr (fun j => a 8 (24 * s + j)) off) m m 0 (fun _ => true)), a) else if kTn (kDr (fun j => a 8 (24 * s + j)) off) m m 0 (fun _ => true) = 0 ∨ ¬ p ≤ nI m then (-1000002, kF a 2) else (nI ((kPth (kDr (fun j => a 8 (24 * s + j)) off) m).getD (p.toNatClampNeg - 1) 0), a)
def kchain (a : KA) (p0 p1 p2 : Int32) : Int32 × KA := if kOut p0 0 3 ∨ kOut p1 0 999 ∨ p2 < 0 then (-1000001, kF a 1) else if a 6 p0.toNatClampNeg = 0 then (-1000002, kF a 2) else if ¬ kN (a 7) p0.toNatClampNeg % 2 = 0 ∨ kOut (nI (kN (a 7) p0.toNatClampNeg / 2)) 1 6 then (-1000005, kF a 5) else kchainV a p0.toNatClampNeg (kN (a 7) p0.toNatClampNeg / 2) p1 p2
set_option maxRecDepth 20000 in
set_option maxHeartbeats 4000000 in
theorem qX6_carAt {w : KW} {l : Launch} {u : KMem} (hu : kWd u) (s : Nat) (hs : s < 4) {f : Nat → Int32} (hf : ∀ k, k < 24 → u.2.1 (401 + 3 * s + 1) k = f k) (off : Int32) {m : Nat} (hm : m ≤ 6) (hl : u.2.1 (401 + 3 * s) 2 = nI (2 * m)) (hW : ∀ t2, 0 < t2 → t2 < 2 ^ m → ∀ c, c < m → u.2.1 (401 + 3 * s + 2) (t2 * 6 + c) = nI (kWy (kDr f off) m t2 c)) (hN : 0 < kTn (kDr f off) m m 0 (fun _ => true)) (pl : Nat) (hpl : pl < m) : KC w l mX6_carAt 3 0 0 [.ref (401 + 3 * s), .int (nI pl), .int off] u (kq (some (.int (nI ((kPth (kDr f off) m).getD pl 0)))) u) := by
  have hp6 : 2 ^ m ≤ 2 ^ 6 := Nat.pow_le_pow_right (by decide) hm
  refine KC.of (ls := [_, _, _, _, _, _]) rfl rfl (Nat.le_of_ble_eq_true rfl) ?_
  have ks := ks_sheet s (by omega)
  have ks1 := ks.1
  have ks2 := ks.2.1
  have ks3 := ks.2.2.1
  have ks4 := ks.2.2.2.1
  have ks5 := ks.2.2.2.2.1
  refine kv_iconst dX6_carAt_0 0 ki_0 ?_
  refine kv_istore_n (ls2 := [_, _, _, _, _, _]) dX6_carAt_1 rfl rfl rfl rfl ?_
  refine kv_iconst dX6_carAt_2 (-1) ki_m1 ?_
  refine kv_istore (ls2 := [_, _, _, _, _, _]) dX6_carAt_3 rfl rfl rfl rfl ?_
  refine kv_iconst dX6_carAt_5 0 ki_0 ?_
  refine kv_istore (ls2 := [_, _, _, _, _, _]) dX6_carAt_6 rfl rfl rfl rfl ?_
  refine KV.loc (ls2 := [some (.ref (401 + 3 * s)), some (.int (nI pl)), some (.int off), some (.int (nI 0)), some (.int (-1)), some (.int (nI 0))]) ?_ (ksS rfl (ksS rfl (ksS rfl (ksS rfl (ksS rfl (ksS rfl ksN))))))
  refine kn_loop (P := fun k => ∀ (t : Nat) (la : Int32) (Dl : Nat → Bool), (t < 2 ^ m) → kCt t m = k → ((la = -1 ∧ Dl = fun _ => true) ∨ ∃ d, d < m ∧ la = nI d ∧ Dl = kDr f off d) → 0 < kTn (kDr f off) m (m - k) t Dl → (∀ j, (kPth (kDr f off) m).getD (k + j) 0 = (kFp (kDr f off) m (m - k) t Dl).getD j 0) → (0 < k → la = nI ((kPth (kDr f off) m).getD (k - 1) 0)) → KV w l mX6_carAt 3 0 0 8 [some (.ref (401 + 3 * s)), some (.int (nI pl)), some (.int off), some (.int (nI t)), some (.int la), some (.int (nI k))] [] u (kq (some (.int (nI ((kPth (kDr f off) m).getD pl 0)))) u)) (pl + 1) ?_ (fun k hk ih => ?_) 0 (-1) (fun _ => true) (Nat.two_pow_pos m) (kCt_0 m) (Or.inl ⟨rfl, rfl⟩) hN (fun j => by rw [Nat.zero_add]; rfl) (fun q => absurd q (Nat.lt_irrefl 0))
  · intro t la Dl g1 g2 g3 g4 g5 g6
    refine kv_iload dX6_carAt_8 rfl ?_
    refine kv_iload_n dX6_carAt_10 rfl ?_
    refine kv_icmp_gt dX6_carAt_11 44 (by decide) (fun h1 => ?_) (fun h1 => ?_)
    · refine kv_iload dX6_carAt_44 rfl ?_
      exact kv_iret dX6_carAt_46 rfl ⟨by rw [g6 (by omega)]; rfl, rfl⟩
    · exact absurd (nI_lt (show pl < pl + 1 by omega) (by omega)) h1
  · intro t la Dl g1 g2 g3 g4 g5 g6
    obtain ⟨r, hr⟩ : ∃ r, m - k = r + 1 := ⟨m - k - 1, by omega⟩
    rw [hr] at g4 g5
    have hKT : ∀ c, c < m → kT1 (kDr f off) m r t Dl c = (fun c => if (!t.testBit c && Dl c) = true then kWy (kDr f off) m (t ||| 2 ^ c) c else 0) c := fun c hc => kT1_w (by omega) hc
    have hFi : kFi (kT1 (kDr f off) m r t Dl) m = kFi (fun c => if (!t.testBit c && Dl c) = true then kWy (kDr f off) m (t ||| 2 ^ c) c else 0) m := kFiA_c hKT m 0 (by omega)
    obtain ⟨c, ec⟩ : ∃ c, c = kFi (fun c => if (!t.testBit c && Dl c) = true then kWy (kDr f off) m (t ||| 2 ^ c) c else 0) m := ⟨_, rfl⟩
    rw [← ec] at hFi
    have hpos := kFi_pos (f := kT1 (kDr f off) m r t Dl) (m := m) g4
    rw [hFi] at hpos
    have hcond : (!t.testBit c && Dl c) = true := Classical.byContradiction fun q => by
      have := hpos.1
      unfold kT1 at this
      rw [if_neg q] at this
      exact absurd this (Nat.lt_irrefl 0)
    have hb : t.testBit c = false := by
      rw [Bool.and_eq_true] at hcond
      cases z : t.testBit c
      · rfl
      · rw [z] at hcond; exact absurd hcond.1 (by decide)
    have hT1 : kT1 (kDr f off) m r t Dl c = kTn (kDr f off) m r (t ||| 2 ^ c) (kDr f off c) := if_pos hcond
    have hstep := kFp_s (kDr f off) m r t Dl hFi
    have hc6 := hpos.2
    refine kv_iload dX6_carAt_8 rfl ?_
    refine kv_iload_n dX6_carAt_10 rfl ?_
    refine kv_icmp_gt dX6_carAt_11 44 (by decide) (fun h2 => ?_) (fun h2 => ?_)
    · exact absurd h2 (nI_nlt (by omega) (by omega))
    · refine kv_iload dX6_carAt_14 rfl ?_
      refine kv_bipush dX6_carAt_16 6 kb_6 ?_
      refine kv_icmp_ge dX6_carAt_18 44 (by decide) (fun h3 => ?_) (fun h3 => ?_)
      · exact absurd h3 (kn_ge (n := 6) (by omega) (by omega))
      · refine kv_aload_n dX6_carAt_21 rfl ?_
        refine kv_iload_n dX6_carAt_22 rfl ?_
        refine kv_iload dX6_carAt_23 rfl ?_
        refine kv_iload_n dX6_carAt_25 rfl ?_
        refine kw_Vi [_, _, _] mX6_firstBehind dX6_carAt_26 lX6_53 wX6_firstBehind kC6 hu rfl (by first | rfl | assumption) rfl rfl rfl (qX6_firstBehind hu s hs hf off hm hl t g1 la Dl g3 hW) (by decide) ?_
        rw [← ec]
        refine kv_istore (ls2 := [_, _, _, _, _, _]) dX6_carAt_29 rfl rfl rfl rfl ?_
        refine kv_iload_n dX6_carAt_31 rfl ?_
        refine kv_iconst dX6_carAt_32 1 ki_1 ?_
        refine kv_iload dX6_carAt_33 rfl ?_
        refine kv_ishl dX6_carAt_35 ?_
        refine kv_ior dX6_carAt_36 ?_
        refine kv_istore_n (ls2 := [_, _, _, _, _, _]) dX6_carAt_37 rfl rfl rfl rfl ?_
        refine kv_iinc (ls2 := [_, _, _, _, _, _]) dX6_carAt_38 (nI (k + 1)) rfl (kv_inc1 k) rfl rfl rfl rfl ?_
        refine kv_goto dX6_carAt_41 8 (by decide) ?_
        refine KV.loc (ih (t ||| 2 ^ c) (nI c) (kDr f off c) (kOr_lt g1 hc6) (by rw [kCt_or hb m hc6, g2]) (Or.inr ⟨c, hc6, rfl, rfl⟩) ?_ (fun j => ?_) (fun _ => ?_)) (ksS (by first | rfl | exact congrArg (fun z => some (Value.int z)) ((congrArg (fun z => nI t ||| z) (kn_pow c (by omega))).trans (kn_or _ _))) (ksS (by first | rfl | exact congrArg (fun z => some (Value.int z)) ((congrArg (fun z => nI t ||| z) (kn_pow c (by omega))).trans (kn_or _ _))) (ksS (by first | rfl | exact congrArg (fun z => some (Value.int z)) ((congrArg (fun z => nI t ||| z) (kn_pow c (by omega))).trans (kn_or _ _))) (ksS (by first | rfl | exact congrArg (fun z => some (Value.int z)) ((congrArg (fun z => nI t ||| z) (kn_pow c (by omega))).trans (kn_or _ _))) (ksS (by first | rfl | exact congrArg (fun z => some (Value.int z)) ((congrArg (fun z => nI t ||| z) (kn_pow c (by omega))).trans (kn_or _ _))) (ksS (by first | rfl | exact congrArg (fun z => some (Value.int z)) ((congrArg (fun z => nI t ||| z) (kn_pow c (by omega))).trans (kn_or _ _))) ksN))))))
        · rw [show m - (k + 1) = r by omega, ← hT1]; exact hpos.1
        · rw [show k + 1 + j = k + (j + 1) by omega, g5, hstep, show m - (k + 1) = r by omega]; rfl
        · rw [show k + 1 - 1 = k + 0 by omega, g5, hstep]; rfl

set_option maxRecDepth 20000 in
set_option maxHeartbeats 4000000 in
theorem qX11_chain {w : KW} {l : Launch} {u : KMem} (hu : kWd u) {a : KA} (hx : kRX a u) (ho : kOk a) (p0 p1 p2 : Int32) : KC w l mX11_chain 4 0 0 [.ref 0, .int p0, .int p1, .int p2] u (kOX u (kchain a p0 p1 p2).1 (kchain a p0 p1 p2).2) := by
  have hr := hx.1
  have hg := ho.1
  have hx20 := (hg.cnt (k := 2) rfl).2
  have hc30 := (hg.cnt (k := 0) rfl).2
  have ht10 := (hg.cnt (k := 3) rfl).2
  have he40 := (hg.cnt (k := 4) rfl).2
  have hs16 := hg.cnt (k := 1) rfl
  refine KC.of (ls := [_, _, _, _, _, _]) rfl rfl (Nat.le_of_ble_eq_true rfl) ?_
  refine kv_iload_n dX11_chain_0 rfl ?_
  refine kv_iconst dX11_chain_1 0 ki_0 ?_
  refine kv_iconst dX11_chain_2 3 ki_3 ?_
  refine kw_Si [_, _, _] mX11_outside dX11_chain_3 lX11_69 wX11_outside rfl rfl rfl (qX11_outside (by exact hu) _ _ _) (by decide) ?_
  refine kw_bne dX11_chain_6 24 (by decide) (fun h1 => ?_) (fun h1 => ?_)
  · have hS : kchain a p0 p1 p2 = (-1000001, kF a 1) := if_pos (Or.inl h1)
    refine kv_aload_n dX11_chain_24 rfl ?_
    refine kv_ldc dX11_chain_25 kX11_74 ?_
    refine kw_Vi [_] mX11_refuse dX11_chain_27 lX11_75 wX11_refuse kC11 hu rfl (by first | rfl | assumption) rfl rfl rfl (qX11_refuse (by exact hu) 1 (by decide) (by decide) _ (by decide)) (by decide) ?_
    exact kv_iret dX11_chain_30 rfl (by rw [hS]; exact kOX.no hx ho hu (by decide) rfl)
  · have n1 : ¬ kOut p0 0 3 := h1
    refine kv_iload_n dX11_chain_9 rfl ?_
    refine kv_iconst dX11_chain_10 0 ki_0 ?_
    refine kv_sipush dX11_chain_11 999 kz_999 ?_
    refine kw_Si [_, _, _] mX11_outside dX11_chain_14 lX11_69 wX11_outside rfl rfl rfl (qX11_outside (by exact hu) _ _ _) (by decide) ?_
    refine kw_bne dX11_chain_17 24 (by decide) (fun h2 => ?_) (fun h2 => ?_)
    · have hS : kchain a p0 p1 p2 = (-1000001, kF a 1) := if_pos (Or.inr (Or.inl h2))
      refine kv_aload_n dX11_chain_24 rfl ?_
      refine kv_ldc dX11_chain_25 kX11_74 ?_
      refine kw_Vi [_] mX11_refuse dX11_chain_27 lX11_75 wX11_refuse kC11 hu rfl (by first | rfl | assumption) rfl rfl rfl (qX11_refuse (by exact hu) 1 (by decide) (by decide) _ (by decide)) (by decide) ?_
      exact kv_iret dX11_chain_30 rfl (by rw [hS]; exact kOX.no hx ho hu (by decide) rfl)
    · have n2 : ¬ kOut p1 0 999 := h2
      refine kv_iload_n dX11_chain_20 rfl ?_
      refine kv_if_ge dX11_chain_21 31 (by decide) (fun h3 => ?_) (fun h3 => ?_)
      · have n3 : ¬ p2 < 0 := Int32.not_lt.mpr h3
        have hS : kchain a p0 p1 p2 = _ := if_neg (fun q => q.elim n1 (fun q => q.elim n2 n3))
        obtain ⟨s, hs3, rfl⟩ := kOut.bd (n := 3) (by omega) n1
        have hs : s < 4 := by omega
        rw [nI_clamp (by omega)] at hS
        have h7 := (ho.2.2.2 s hs).1.n (by omega)
        have h24 : kN (a 7) s ≤ 24 := h7.2
        have e7 : a 7 s = nI (kN (a 7) s) := h7.1
        have r2 : (nI (kN (a 7) s) - nI (kN (a 7) s) / 2 * 2 : Int32) = nI (kN (a 7) s % 2) := kn_rem (d := 2) (by omega) (by omega) (by omega)
        have d2 : (nI (kN (a 7) s) / 2 : Int32) = nI (kN (a 7) s / 2) := pk_div (d := 2) (by omega) (by omega) (by omega)
        have ks := ks_sheet s (by omega)
        have ks1 := ks.1
        have ks6 := ks.2.2.2.2.2
        have xs := hx.2.2.2.2.2.2 s hs
        refine kv_aload_n dX11_chain_31 rfl ?_
        refine kw_gR dX11_chain_32 fX11_60 hu (by first | rfl | assumption) rfl rfl (by first | rfl | assumption) ?_
        refine kv_iload_n dX11_chain_35 rfl ?_
        refine kw_al (t := 4) (n := 4) dX11_chain_36 hu rfl rfl (s) rfl (by omega) rfl (by first | rfl | assumption) ?_
        refine kv_astore (ls2 := [_, _, _, _, _, _]) dX11_chain_37 rfl rfl rfl rfl ?_
        refine kv_aload dX11_chain_39 rfl ?_
        refine kw_gI dX11_chain_41 fX11_359 hu (by first | rfl | assumption) rfl rfl ?_
        rw [xs.1]
        refine kv_if_ne dX11_chain_44 54 (by decide) (fun h4 => ?_) (fun h4 => ?_)
        · rw [if_neg h4] at hS
          refine kv_aload dX11_chain_54 rfl ?_
          refine kw_gI dX11_chain_56 fX11_362 hu (by first | rfl | assumption) rfl rfl ?_
          rw [xs.2.1, e7]
          refine kv_iconst dX11_chain_59 2 ki_2 ?_
          refine kv_irem dX11_chain_60 (by decide) ?_
          rw [r2]
          refine kv_if_ne dX11_chain_61 80 (by decide) (fun h5 => ?_) (fun h5 => ?_)
          · have hod : ¬ kN (a 7) s % 2 = 0 := fun q => h5 (by rw [q]; rfl)
            rw [if_pos (Or.inl hod)] at hS
            refine kv_aload_n dX11_chain_80 rfl ?_
            refine kv_ldc dX11_chain_81 kX11_133 ?_
            refine kw_Vi [_] mX11_refuse dX11_chain_83 lX11_75 wX11_refuse kC11 hu rfl (by first | rfl | assumption) rfl rfl rfl (qX11_refuse (by exact hu) 5 (by decide) (by decide) _ (by decide)) (by decide) ?_
            exact kv_iret dX11_chain_86 rfl (by rw [hS]; exact kOX.no hx ho hu (by decide) rfl)
          · have hev : kN (a 7) s % 2 = 0 := (nI_eq (b := 0) (by omega) (by omega)).mp h5
            refine kv_aload dX11_chain_64 rfl ?_
            refine kw_gI dX11_chain_66 fX11_362 hu (by first | rfl | assumption) rfl rfl ?_
            rw [xs.2.1, e7]
            refine kv_iconst dX11_chain_69 2 ki_2 ?_
            refine kv_idiv dX11_chain_70 (by decide) ?_
            rw [d2]
            refine kv_iconst dX11_chain_71 1 ki_1 ?_
            refine kv_bipush dX11_chain_72 6 kb_6 ?_
            refine kw_Si [_, _, _] mX11_outside dX11_chain_74 lX11_69 wX11_outside rfl rfl rfl (qX11_outside (by exact hu) _ _ _) (by decide) ?_
            refine kw_beq dX11_chain_77 87 (by decide) (fun h6 => ?_) (fun h6 => ?_)
            · have n4 := h6
              rw [if_neg (fun q => q.elim (fun z => z hev) n4)] at hS
              obtain ⟨m, em⟩ : ∃ m, m = kN (a 7) s / 2 := ⟨_, rfl⟩
              rw [← em] at n4 hS
              obtain ⟨mj, m1, m6, emj⟩ := kOut.b1 (n := 6) (by omega) n4
              have hmj : m = mj := (nI_eq (by omega) (by omega)).mp emj
              have hm6 : m ≤ 6 := by omega
              have hm1 : 1 ≤ m := by omega
              have hl : u.2.1 (401 + 3 * s) 2 = nI (2 * m) := xs.2.1.trans (e7.trans (congrArg nI (by omega)))
              have hTb := kTn_b (D := kDr (fun j => a 8 (24 * s + j)) p1) hm6 m 0 (fun _ => true)
              have hTb2 : 6 ^ m ≤ 6 ^ 6 := Nat.pow_le_pow_right (by decide) hm6
              unfold kchainV at hS
              refine kv_aload dX11_chain_87 rfl ?_
              refine kv_iload_n dX11_chain_89 rfl ?_
              refine kw_VQ [_] mX6_orders dX11_chain_90 lX11_365 wX6_orders kC6 hu rfl (by first | rfl | assumption) rfl rfl rfl (qX6_orders hu s hs (f := fun j => a 8 (24 * s + j)) xs.2.2 p1 hm6 hm1 hl) (by decide) (fun _ v1 q1 => ?_)
              obtain ⟨rfl, e0, hW⟩ := q1
              have e1 : kEq kSX u v1 := e0.wk (fun a k q => by unfold kSWs at q; unfold kSX; omega)
              have xs1 := (hx.of ho (fun b k _ q => e1.2.2.1 b k q)).2.2.2.2.2.2 s hs
              have hu1 := e1.wd hu
              have E1 := e1
              refine kv_istore (ls2 := [_, _, _, _, _, _]) dX11_chain_93 rfl rfl rfl rfl ?_
              refine kv_iload_n dX11_chain_95 rfl ?_
              refine kv_if_ne dX11_chain_96 102 (by decide) (fun h7 => ?_) (fun h7 => ?_)
              · rw [if_neg h7] at hS
                have hp0 := h7
                refine kv_iload dX11_chain_102 rfl ?_
                refine kv_if_eq dX11_chain_104 118 (by decide) (fun h8 => ?_) (fun h8 => ?_)
                · have hz : kTn (kDr (fun j => a 8 (24 * s + j)) p1) m m 0 (fun _ => true) = 0 := (nI_eq (b := 0) (by omega) (by omega)).mp h8
                  rw [if_pos (Or.inl hz)] at hS
                  refine kv_aload_n dX11_chain_118 rfl ?_
                  refine kv_ldc dX11_chain_119 kX11_248 ?_
                  refine kw_Vi [_] mX11_refuse dX11_chain_121 lX11_75 wX11_refuse kC11 hu1 rfl (by first | rfl | assumption) rfl rfl rfl (qX11_refuse (by exact hu1) 2 (by decide) (by decide) _ (by decide)) (by decide) ?_
                  exact kv_iret dX11_chain_124 rfl (by rw [hS]; exact kOX.no_ hx ho hu E1 (by decide) rfl)
                · have hz : ¬ kTn (kDr (fun j => a 8 (24 * s + j)) p1) m m 0 (fun _ => true) = 0 := fun q => h8 (by rw [q]; rfl)
                  refine kv_iload_n dX11_chain_107 rfl ?_
                  refine kv_aload dX11_chain_108 rfl ?_
                  refine kw_gI dX11_chain_110 fX11_362 hu1 (by first | rfl | assumption) rfl rfl ?_
                  rw [xs1.2.1, e7]
                  refine kv_iconst dX11_chain_113 2 ki_2 ?_
                  refine kv_idiv dX11_chain_114 (by decide) ?_
                  rw [d2, ← em]
                  refine kv_icmp_le dX11_chain_115 125 (by decide) (fun h9 => ?_) (fun h9 => ?_)
                  · rw [if_neg (fun q => q.elim hz (fun z => z h9))] at hS
                    obtain ⟨pn, hpn, rfl⟩ := nI_of n3
                    have hpm : pn ≤ m := (nI_leI hpn (by omega)).mp h9
                    have hp1 : 1 ≤ pn := Nat.pos_of_ne_zero (fun q => hp0 (by rw [q]; rfl))
                    rw [nI_clamp hpn] at hS
                    refine kv_aload dX11_chain_125 rfl ?_
                    refine kv_iload_n dX11_chain_127 rfl ?_
                    refine kv_iconst dX11_chain_128 1 ki_1 ?_
                    refine kv_isub dX11_chain_129 ?_
                    refine kv_iload_n dX11_chain_130 rfl ?_
                    rw [show (nI pn - 1 : Int32) = nI (pn - 1) from kn_sub rfl (show (1 : Int32) = nI 1 from rfl) hp1]
                    refine kw_Vi [_, _] mX6_carAt dX11_chain_131 lX11_368 wX6_carAt kC6 hu1 rfl (by first | rfl | assumption) rfl rfl rfl (qX6_carAt hu1 s hs (f := fun j => a 8 (24 * s + j)) xs1.2.2 p1 hm6 (xs1.2.1.trans (e7.trans (congrArg nI (by omega)))) hW (by omega) (pn - 1) (by omega)) (by decide) ?_
                    exact kv_iret dX11_chain_134 rfl (by rw [hS]; exact kOX.id hx ho hu E1 rfl)
                  · rw [if_pos (Or.inr h9)] at hS
                    refine kv_aload_n dX11_chain_118 rfl ?_
                    refine kv_ldc dX11_chain_119 kX11_248 ?_
                    refine kw_Vi [_] mX11_refuse dX11_chain_121 lX11_75 wX11_refuse kC11 hu1 rfl (by first | rfl | assumption) rfl rfl rfl (qX11_refuse (by exact hu1) 2 (by decide) (by decide) _ (by decide)) (by decide) ?_
                    exact kv_iret dX11_chain_124 rfl (by rw [hS]; exact kOX.no_ hx ho hu E1 (by decide) rfl)
              · rw [if_pos h7] at hS
                refine kv_iload dX11_chain_99 rfl ?_
                exact kv_iret dX11_chain_101 rfl (by rw [hS]; exact kOX.id hx ho hu E1 rfl)
            · rw [if_pos (Or.inr h6)] at hS
              refine kv_aload_n dX11_chain_80 rfl ?_
              refine kv_ldc dX11_chain_81 kX11_133 ?_
              refine kw_Vi [_] mX11_refuse dX11_chain_83 lX11_75 wX11_refuse kC11 hu rfl (by first | rfl | assumption) rfl rfl rfl (qX11_refuse (by exact hu) 5 (by decide) (by decide) _ (by decide)) (by decide) ?_
              exact kv_iret dX11_chain_86 rfl (by rw [hS]; exact kOX.no hx ho hu (by decide) rfl)
        · rw [if_pos h4] at hS
          refine kv_aload_n dX11_chain_47 rfl ?_
          refine kv_ldc dX11_chain_48 kX11_248 ?_
          refine kw_Vi [_] mX11_refuse dX11_chain_50 lX11_75 wX11_refuse kC11 hu rfl (by first | rfl | assumption) rfl rfl rfl (qX11_refuse (by exact hu) 2 (by decide) (by decide) _ (by decide)) (by decide) ?_
          exact kv_iret dX11_chain_53 rfl (by rw [hS]; exact kOX.no hx ho hu (by decide) rfl)
      · have hS : kchain a p0 p1 p2 = (-1000001, kF a 1) := if_pos (Or.inr (Or.inr (Int32.not_le.mp h3)))
        refine kv_aload_n dX11_chain_24 rfl ?_
        refine kv_ldc dX11_chain_25 kX11_74 ?_
        refine kw_Vi [_] mX11_refuse dX11_chain_27 lX11_75 wX11_refuse kC11 hu rfl (by first | rfl | assumption) rfl rfl rfl (qX11_refuse (by exact hu) 1 (by decide) (by decide) _ (by decide)) (by decide) ?_
        exact kv_iret dX11_chain_30 rfl (by rw [hS]; exact kOX.no hx ho hu (by decide) rfl)

