/-! core -/
def kSK (a k : Nat) : Prop := a = 394 ∧ (k = 3 ∨ k = 4)
def kSK2 (a k : Nat) : Prop := a = 413 ∧ k = 19
theorem kTt_sym {g : Nat → Int32} {n i j : Nat} (hi : i < n) (h : (kTt g n i).testBit j = true) : (kTt g n j).testBit i = true := by
  unfold kTt at *
  rw [kSt_tb, Bool.and_eq_true, decide_eq_true_iff, decide_eq_true_iff] at *
  exact ⟨hi, fun q => h.2.1 q.symm, kTie_sym h.2.2⟩
theorem kTt_ir (g : Nat → Int32) (n i : Nat) : (kTt g n i).testBit i = false := by
  unfold kTt
  rw [kSt_tb, decide_eq_false (p := ¬ i = i ∧ _) (fun q => q.1 rfl), Bool.and_false]
theorem kFull20 {core op : Nat} (hc : core < 2 ^ 20) (h : 20 ≤ kCt core 24) (hd : kDj core op) (ho : op < 2 ^ 20) : op = 0 := by
  have e : kCt core 24 = kCt core 20 := kCt_z (n := 20) hc 4
  have h1 := kCt_b core 20
  have h2 := kCt_full (m := 20) hc (by omega)
  refine Nat.eq_of_testBit_eq fun i => ?_
  rw [Nat.zero_testBit]
  cases q : op.testBit i
  · rfl
  · have hi : i < 20 := Nat.lt_of_not_le fun z => by
      have := Nat.testBit_lt_two_pow (Nat.lt_of_lt_of_le ho (Nat.pow_le_pow_right (by decide) z))
      rw [q] at this; exact absurd this (by decide)
    exact (hd i (by rw [h2, Nat.testBit_two_pow_sub_one]; exact decide_eq_true hi) q).elim
theorem kBc24 {x : Nat} (h : x < 2 ^ 20) : kBC (nI x) = nI (kCt x 24) := by rw [kBC_e (by omega), kBits_ct 24 (by omega)]
theorem kClr1 (x i : Nat) (h : x.testBit i = true) : x ^^^ (x &&& 2 ^ i) = x ^^^ 2 ^ i := Nat.eq_of_testBit_eq fun j => by
  rw [Nat.testBit_xor, Nat.testBit_xor, Nat.testBit_and, Nat.testBit_two_pow]
  by_cases q : i = j
  · subst q; rw [h]; rfl
  · rw [decide_eq_false q, Bool.and_false]
noncomputable def kCoreV (T : Nat → Nat) (n : Nat) : Nat := @dite _ (∃ b, kBst T n b) (Classical.propDecidable _) (fun h => Classical.choose h) (fun _ => 0)
theorem kCoreV_is {T : Nat → Nat} {n b : Nat} (h : kBst T n b) : kCoreV T n = b := by
  have hx : ∃ b, kBst T n b := ⟨b, h⟩
  unfold kCoreV
  rw [dif_pos hx]
  exact kBst_un (Classical.choose_spec hx) h
noncomputable def kcore (a : KA) : Int32 × KA := (nI (kCoreV (kTt (a 0) (kN (a 0) 2)) (kN (a 0) 2)), a)
theorem kcore_ok {a : KA} (ho : kOk a) : kOk (kcore a).2 := ho
set_option maxRecDepth 20000 in
set_option maxHeartbeats 4000000 in
theorem qX8_grow_s {w : KW} {l : Launch} {u : KMem} (hu : kWd u) {g : Nat → Int32} (hr : kRS 1 g u) (hg : kGI g) (hT : ∀ c, c < kN g 2 → u.2.1 396 c = nI ((kTt g (kN g 2)) c)) (F : Nat) (hF : F ≤ kN g 2) (hI : ∀ i, i < F → ∀ (core op b : Nat) (v : KMem), op < 2 ^ i → kDj core op → core < 2 ^ 20 → b < 2 ^ 20 → kEq kSK u v → v.2.1 394 3 = nI b → v.2.1 394 4 = nI (kCt b 24) → KC w l mX8_grow (i + 1) 0 0 [.ref 394, .int (nI core), .int (nI (kCt core 24)), .int (nI op)] v (fun r z => r = none ∧ kEq kSK u z ∧ ∃ c, c < 2 ^ 20 ∧ z.2.1 394 3 = nI c ∧ z.2.1 394 4 = nI (kCt c 24) ∧ kPX (kFm (kTt g (kN g 2)) core op) b c)) (core op b : Nat) (v : KMem) (hop : op < 2 ^ F) (hdj : kDj core op) (hcore : core < 2 ^ 20) (hbl_ : b < 2 ^ 20) (E0 : kEq kSK u v) (v3 : v.2.1 394 3 = nI b) (v4 : v.2.1 394 4 = nI (kCt b 24)) : KC w l mX8_grow (F + 1) 0 0 [.ref 394, .int (nI core), .int (nI (kCt core 24)), .int (nI op)] v (fun r z => r = none ∧ kEq kSK u z ∧ ∃ c, c < 2 ^ 20 ∧ z.2.1 394 3 = nI c ∧ z.2.1 394 4 = nI (kCt c 24) ∧ kPX (kFm (kTt g (kN g 2)) core op) b c) := by
  have hx20 := (hg.cnt (k := 2) rfl).2
  have hw := hg.cnt (k := 2) rfl
  have hv0 := E0.wd hu
  have hcb0 := kCt_b core 24
  have hbb0 := kCt_b b 24
  have hopn : op < 2 ^ kN g 2 := Nat.lt_of_lt_of_le hop (Nat.pow_le_pow_right (by decide) hF)
  refine KC.of (ls := [_, _, _, _, _, _]) rfl rfl (Nat.le_of_ble_eq_true rfl) ?_
  refine kv_iload_n dX8_grow_0 rfl ?_
  refine kv_aload_n dX8_grow_1 rfl ?_
  refine kw_gI dX8_grow_2 fX8_83 hv0 (by first | rfl | assumption) rfl rfl ?_
  rw [v4]
  refine kv_icmp_le dX8_grow_5 18 (by decide) (fun h1 => ?_) (fun h1 => ?_)
  · have hle0 : kCt core 24 ≤ kCt b 24 := (nI_leI (by omega) (by omega)).mp h1
    have E1 := E0
    obtain ⟨b0, hb0⟩ : ∃ b0, b0 = b := ⟨_, rfl⟩
    have w3 : v.2.1 394 3 = nI b0 := by rw [hb0]; exact v3
    have w4 : v.2.1 394 4 = nI (kCt b0 24) := by rw [hb0]; exact v4
    have bl : b0 < 2 ^ 20 := by rw [hb0]; exact hbl_
    have pp : kPX (fun Y => Y = core) b b0 := by rw [hb0]; exact kPX_no (fun Y q => by rw [q]; exact hle0)
    first
    | (have _k := E1)
    | (have E1 : kEq kSK u (kv_si (kv_si v 394 3 (nI core)) 394 4 (nI (kCt core 24))) := (E0.si ⟨rfl, Or.inl rfl⟩).si ⟨rfl, Or.inr rfl⟩
       obtain ⟨b0, hb0⟩ : ∃ b0, b0 = core := ⟨_, rfl⟩
       have w3 : (kv_si (kv_si v 394 3 (nI core)) 394 4 (nI (kCt core 24))).2.1 394 3 = nI b0 := by rw [kv_si_n (by omega), kv_si_s, hb0]
       have w4 : (kv_si (kv_si v 394 3 (nI core)) 394 4 (nI (kCt core 24))).2.1 394 4 = nI (kCt b0 24) := by rw [kv_si_s, hb0]
       have bl : b0 < 2 ^ 20 := by rw [hb0]; exact hcore
       have pp : kPX (fun Y => Y = core) b b0 := by
         rw [hb0]
         exact ⟨fun Y q => by rw [q]; exact Nat.le_refl _, by omega, Or.inr ⟨rfl, hgt, fun Y q _ => by rw [q]; exact Nat.le_refl _⟩⟩)
    refine kv_iload_n dX8_grow_18 rfl ?_
    refine kv_bipush dX8_grow_19 20 kb_20 ?_
    refine kv_icmp_lt dX8_grow_21 25 (by decide) (fun h2 => ?_) (fun h2 => ?_)
    · refine kv_iconst dX8_grow_25 0 ki_0 ?_
      refine kv_istore (ls2 := [_, _, _, _, _, _]) dX8_grow_26 rfl rfl rfl rfl ?_
      refine KV.loc (ls2 := [some (.ref 394), some (.int (nI core)), some (.int (nI (kCt core 24))), some (.int (nI op)), some (.int (nI (0))), none]) ?_ (ksS rfl (ksS rfl (ksS rfl (ksS rfl (ksS rfl (ks0 ksN))))))
      refine kn_loop (P := fun i => ∀ (z : KMem) (c : Nat), kEq kSK u z → z.2.1 394 3 = nI c → z.2.1 394 4 = nI (kCt c 24) → c < 2 ^ 20 → kPX (kFmI (kTt g (kN g 2)) core op i) b c → KV w l mX8_grow (F + 1) 0 0 28 [some (.ref 394), some (.int (nI core)), some (.int (nI (kCt core 24))), some (.int (nI op)), some (.int (nI i)), none] [] z (fun r z => r = none ∧ kEq kSK u z ∧ ∃ c, c < 2 ^ 20 ∧ z.2.1 394 3 = nI c ∧ z.2.1 394 4 = nI (kCt c 24) ∧ kPX (kFm (kTt g (kN g 2)) core op) b c)) (kN g 2) ?_ (fun i hi ih => ?_) _ b0 E1 w3 w4 bl (kPX_c pp (fun Y => kFmI_0))
      · intro z c E z3 z4 hcl hP
        have hv := E.wd hu
        have hrv : kRS 1 g z := hr.of (fun a k h1 h2 => E.2.2.1 a k (by unfold kSK; omega)) hg
        have hTv : ∀ c, c < kN g 2 → z.2.1 396 c = nI ((kTt g (kN g 2)) c) := fun c hc => (E.2.2.1 396 c (by unfold kSK; omega)).trans (hT c hc)
        refine kv_iload dX8_grow_28 rfl ?_
        refine kv_aload_n dX8_grow_30 rfl ?_
        refine kw_gR dX8_grow_31 fX8_18 hv (by first | rfl | assumption) rfl rfl (by first | rfl | assumption) ?_
        refine kw_gI dX8_grow_34 fX8_58 hv (by first | rfl | assumption) rfl rfl ?_
        rw [hrv.n2, hw.1]
        refine kv_icmp_ge dX8_grow_37 104 (by decide) (fun h3 => ?_) (fun h3 => ?_)
        · exact kv_vret dX8_grow_104 rfl ⟨rfl, E, c, hcl, z3, z4, kPX_c hP (fun Y => kFmI_n hopn)⟩
        · exact absurd h3 (fun q => q (Int32.le_refl _))
      · have ihi := ih
        intro z c E z3 z4 hcl hP
        have hv := E.wd hu
        have hrv : kRS 1 g z := hr.of (fun a k h1 h2 => E.2.2.1 a k (by unfold kSK; omega)) hg
        have hTv : ∀ c, c < kN g 2 → z.2.1 396 c = nI ((kTt g (kN g 2)) c) := fun c hc => (E.2.2.1 396 c (by unfold kSK; omega)).trans (hT c hc)
        have hcb := kCt_b c 24
        have hTl : (kTt g (kN g 2)) i < 2 ^ 20 := kTt_lt (by omega) i
        have hop20 : op < 2 ^ 20 := Nat.lt_of_lt_of_le hop (Nat.pow_le_pow_right (by decide) (by omega))
        have hbl : (op &&& (kTt g (kN g 2)) i &&& (2 ^ i - 1)) < 2 ^ i := Nat.and_lt_two_pow _ (by have := Nat.two_pow_pos i; omega)
        have hbl20 : (op &&& (kTt g (kN g 2)) i &&& (2 ^ i - 1)) < 2 ^ 20 := Nat.lt_of_lt_of_le hbl (Nat.pow_le_pow_right (by decide) (by omega))
        have hblb := kCt_b (op &&& (kTt g (kN g 2)) i &&& (2 ^ i - 1)) 24
        have bc := kBc24 hbl20
        refine kv_iload dX8_grow_28 rfl ?_
        refine kv_aload_n dX8_grow_30 rfl ?_
        refine kw_gR dX8_grow_31 fX8_18 hv (by first | rfl | assumption) rfl rfl (by first | rfl | assumption) ?_
        refine kw_gI dX8_grow_34 fX8_58 hv (by first | rfl | assumption) rfl rfl ?_
        rw [hrv.n2, hw.1]
        refine kv_icmp_ge dX8_grow_37 104 (by decide) (fun h4 => ?_) (fun h4 => ?_)
        · exact absurd h4 (kn_ge hi (by omega))
        · refine kv_iload_n dX8_grow_40 rfl ?_
          refine kv_iload dX8_grow_41 rfl ?_
          refine kv_ishr dX8_grow_43 ?_
          refine kv_iconst dX8_grow_44 1 ki_1 ?_
          refine kv_iand dX8_grow_45 ?_
          refine kv_if_eq dX8_grow_46 98 (by decide) (fun h5 => ?_) (fun h5 => ?_)
          · have hb := kb_tf ((kBit0 (by omega)).mp h5)
            have hN := kPX_c hP (kFmI_no hb)
            refine kv_iinc (ls2 := [_, _, _, _, _, _]) dX8_grow_98 (nI (i + 1)) rfl (kv_inc1 i) rfl rfl rfl rfl ?_
            refine kv_goto dX8_grow_101 28 (by decide) ?_
            first
            | exact KV.loc (ihi _ _ E z3 z4 hcl hN) (ksS rfl (ksS rfl (ksS rfl (ksS rfl (ksS rfl (ks0 ksN))))))
            | exact KV.loc (ihi _ _ E2 y3 y4 hdl (kPX_c (kPX_or hP pd (kFmI_ord hdj hb hcore hop20)) hY)) (ksS rfl (ksS rfl (ksS rfl (ksS rfl (ksS rfl (ks0 ksN))))))
          · have hb := kb_tb (Classical.byContradiction fun q => h5 ((kBit0 (by omega)).mpr q))
            have hiF : i < F := kBit_l hop hb
            have hsy : ∀ j, op.testBit j = true → ((kTt g (kN g 2)) i).testBit j = true → ((kTt g (kN g 2)) j).testBit i = true := fun j _ q => kTt_sym hi q
            have hY := kFmI_y (T := (kTt g (kN g 2))) (core := core) hb hsy
            have hci : kDj core (2 ^ i) := fun j p q => by
              rw [Nat.testBit_two_pow, decide_eq_true_iff] at q
              rw [← q] at p
              exact hdj i p hb
            have hd2 : kDj (core ||| 2 ^ i) (op &&& (kTt g (kN g 2)) i &&& (2 ^ i - 1)) := fun j p q => by
              rw [kBl_tb, Bool.and_eq_true, Bool.and_eq_true, decide_eq_true_iff] at q
              rw [Nat.testBit_or, Nat.testBit_two_pow, Bool.or_eq_true, decide_eq_true_iff] at p
              rcases p with p | p
              · exact hdj j p q.1.1
              · omega
            have hsz : kCt (core ||| 2 ^ i) 24 = kCt core 24 + 1 := by rw [kDj_ct hci, kOne_ct i (by omega)]
            have hc2 : core ||| 2 ^ i < 2 ^ 20 := Nat.or_lt_two_pow hcore (Nat.pow_lt_pow_right (by decide) (by omega))
            refine kv_iload_n dX8_grow_49 rfl ?_
            refine kv_aload_n dX8_grow_50 rfl ?_
            refine kw_gR dX8_grow_51 fX8_15 hv (by first | rfl | assumption) rfl rfl (by first | rfl | assumption) ?_
            refine kv_iload dX8_grow_54 rfl ?_
            refine kw_il dX8_grow_56 hv (by first | rfl | assumption) (i) rfl (by omega) rfl ?_
            rw [hTv i hi]
            refine kv_iand dX8_grow_57 ?_
            refine kv_iconst dX8_grow_58 1 ki_1 ?_
            refine kv_iload dX8_grow_59 rfl ?_
            refine kv_ishl dX8_grow_61 ?_
            refine kv_iconst dX8_grow_62 1 ki_1 ?_
            refine kv_isub dX8_grow_63 ?_
            refine kv_iand dX8_grow_64 ?_
            rw [show (nI op &&& nI ((kTt g (kN g 2)) i) &&& ((1 : Int32) <<< (nI i &&& 31) - 1)) = nI (op &&& (kTt g (kN g 2)) i &&& (2 ^ i - 1)) from by rw [kn_pow i (by omega), show (nI (2 ^ i) - 1 : Int32) = nI (2 ^ i - 1) from kn_sub rfl (show (1 : Int32) = nI 1 from rfl) (Nat.two_pow_pos i), kn_and, kn_and]]
            refine kv_istore (ls2 := [_, _, _, _, _, _]) dX8_grow_65 rfl rfl rfl rfl ?_
            refine kv_iload_n dX8_grow_67 rfl ?_
            refine kv_iconst dX8_grow_68 1 ki_1 ?_
            refine kv_iadd dX8_grow_69 ?_
            refine kv_iload dX8_grow_70 rfl ?_
            refine kw_Si [_] mJ6_bitCount_0f7a4 dX8_grow_72 lX8_34 wJ6_bitCount_0f7a4 rfl rfl rfl (qJ6_bitCount_0f7a4 hv _) (by omega) ?_
            rw [bc]
            refine kv_iadd dX8_grow_75 ?_
            refine kv_aload_n dX8_grow_76 rfl ?_
            refine kw_gI dX8_grow_77 fX8_83 hv (by first | rfl | assumption) rfl rfl ?_
            rw [z4]
            rw [show (nI (kCt core 24) + 1 + nI (kCt (op &&& (kTt g (kN g 2)) i &&& (2 ^ i - 1)) 24) : Int32) = nI (kCt core 24 + 1 + kCt (op &&& (kTt g (kN g 2)) i &&& (2 ^ i - 1)) 24) from kn_add (kn_add rfl (show (1 : Int32) = nI 1 from rfl)) rfl]
            refine kv_icmp_le dX8_grow_80 98 (by decide) (fun h6 => ?_) (fun h6 => ?_)
            · have hle : kCt core 24 + 1 + kCt (op &&& (kTt g (kN g 2)) i &&& (2 ^ i - 1)) 24 ≤ kCt c 24 := (nI_leI (by omega) (by omega)).mp h6
              have hN := kPX_c (kPX_or hP (kPX_no (b := c) (F := kFm (kTt g (kN g 2)) (core ||| 2 ^ i) (op &&& (kTt g (kN g 2)) i &&& (2 ^ i - 1))) (fun Y q => by have := kFm_sz hd2 q; omega)) (kFmI_ord hdj hb hcore hop20)) hY
              refine kv_iinc (ls2 := [_, _, _, _, _, _]) dX8_grow_98 (nI (i + 1)) rfl (kv_inc1 i) rfl rfl rfl rfl ?_
              refine kv_goto dX8_grow_101 28 (by decide) ?_
              first
              | exact KV.loc (ihi _ _ E z3 z4 hcl hN) (ksS rfl (ksS rfl (ksS rfl (ksS rfl (ksS rfl (ks0 ksN))))))
              | exact KV.loc (ihi _ _ E2 y3 y4 hdl (kPX_c (kPX_or hP pd (kFmI_ord hdj hb hcore hop20)) hY)) (ksS rfl (ksS rfl (ksS rfl (ksS rfl (ksS rfl (ks0 ksN))))))
            · refine kv_aload_n dX8_grow_83 rfl ?_
              refine kv_iload_n dX8_grow_84 rfl ?_
              refine kv_iconst dX8_grow_85 1 ki_1 ?_
              refine kv_iload dX8_grow_86 rfl ?_
              refine kv_ishl dX8_grow_88 ?_
              refine kv_ior dX8_grow_89 ?_
              refine kv_iload_n dX8_grow_90 rfl ?_
              refine kv_iconst dX8_grow_91 1 ki_1 ?_
              refine kv_iadd dX8_grow_92 ?_
              refine kv_iload dX8_grow_93 rfl ?_
              rw [show (nI core ||| (1 : Int32) <<< (nI i &&& 31)) = nI (core ||| 2 ^ i) from (congrArg (fun z => nI core ||| z) (kn_pow i (by omega))).trans (kn_or _ _), show (nI (kCt core 24) + 1 : Int32) = nI (kCt (core ||| 2 ^ i) 24) from (kn_add rfl (show (1 : Int32) = nI 1 from rfl)).trans (by rw [hsz])]
              refine kw_VQ [_, _, _] mX8_grow dX8_grow_95 lX8_86 wX8_grow kC8 hv rfl (by first | rfl | assumption) rfl rfl rfl (hI i hiF (core ||| 2 ^ i) (op &&& (kTt g (kN g 2)) i &&& (2 ^ i - 1)) c z hbl hd2 hc2 hcl E z3 z4) (by omega) (fun _ v1 q1 => ?_)
              obtain ⟨rfl, E2, d, hdl, y3, y4, pd⟩ := q1
              have hv1 := E2.wd hu
              refine kv_iinc (ls2 := [_, _, _, _, _, _]) dX8_grow_98 (nI (i + 1)) rfl (kv_inc1 i) rfl rfl rfl rfl ?_
              refine kv_goto dX8_grow_101 28 (by decide) ?_
              first
              | exact KV.loc (ihi _ _ E z3 z4 hcl hN) (ksS rfl (ksS rfl (ksS rfl (ksS rfl (ksS rfl (ks0 ksN))))))
              | exact KV.loc (ihi _ _ E2 y3 y4 hdl (kPX_c (kPX_or hP pd (kFmI_ord hdj hb hcore hop20)) hY)) (ksS rfl (ksS rfl (ksS rfl (ksS rfl (ksS rfl (ks0 ksN))))))
    · have h20 : 20 ≤ kCt core 24 := Nat.le_of_not_lt (fun q => h2 (nI_lt (b := 20) q (by omega)))
      have hz := kFull20 hcore h20 hdj (Nat.lt_of_lt_of_le hop (Nat.pow_le_pow_right (by decide) (by omega)))
      have pz : kPX (kFm (kTt g (kN g 2)) core op) b b0 := by rw [hz]; exact kPX_c pp (fun Y => kFm_0)
      exact kv_vret dX8_grow_24 rfl ⟨rfl, E1, b0, bl, w3, w4, pz⟩
  · have hgt : kCt b 24 < kCt core 24 := Nat.lt_of_not_le (fun q => h1 (nI_le q (by omega)))
    refine kv_aload_n dX8_grow_8 rfl ?_
    refine kv_iload_n dX8_grow_9 rfl ?_
    refine kw_pI dX8_grow_10 fX8_80 hv0 (by first | rfl | assumption) rfl rfl ?_
    refine kv_aload_n dX8_grow_13 rfl ?_
    refine kv_iload_n dX8_grow_14 rfl ?_
    refine kw_pI dX8_grow_15 fX8_83 hv0 (by first | rfl | assumption) rfl rfl ?_
    first
    | (have _k := E1)
    | (have E1 : kEq kSK u (kv_si (kv_si v 394 3 (nI core)) 394 4 (nI (kCt core 24))) := (E0.si ⟨rfl, Or.inl rfl⟩).si ⟨rfl, Or.inr rfl⟩
       obtain ⟨b0, hb0⟩ : ∃ b0, b0 = core := ⟨_, rfl⟩
       have w3 : (kv_si (kv_si v 394 3 (nI core)) 394 4 (nI (kCt core 24))).2.1 394 3 = nI b0 := by rw [kv_si_n (by omega), kv_si_s, hb0]
       have w4 : (kv_si (kv_si v 394 3 (nI core)) 394 4 (nI (kCt core 24))).2.1 394 4 = nI (kCt b0 24) := by rw [kv_si_s, hb0]
       have bl : b0 < 2 ^ 20 := by rw [hb0]; exact hcore
       have pp : kPX (fun Y => Y = core) b b0 := by
         rw [hb0]
         exact ⟨fun Y q => by rw [q]; exact Nat.le_refl _, by omega, Or.inr ⟨rfl, hgt, fun Y q _ => by rw [q]; exact Nat.le_refl _⟩⟩)
    refine kv_iload_n dX8_grow_18 rfl ?_
    refine kv_bipush dX8_grow_19 20 kb_20 ?_
    refine kv_icmp_lt dX8_grow_21 25 (by decide) (fun h7 => ?_) (fun h7 => ?_)
    · refine kv_iconst dX8_grow_25 0 ki_0 ?_
      refine kv_istore (ls2 := [_, _, _, _, _, _]) dX8_grow_26 rfl rfl rfl rfl ?_
      refine KV.loc (ls2 := [some (.ref 394), some (.int (nI core)), some (.int (nI (kCt core 24))), some (.int (nI op)), some (.int (nI (0))), none]) ?_ (ksS rfl (ksS rfl (ksS rfl (ksS rfl (ksS rfl (ks0 ksN))))))
      refine kn_loop (P := fun i => ∀ (z : KMem) (c : Nat), kEq kSK u z → z.2.1 394 3 = nI c → z.2.1 394 4 = nI (kCt c 24) → c < 2 ^ 20 → kPX (kFmI (kTt g (kN g 2)) core op i) b c → KV w l mX8_grow (F + 1) 0 0 28 [some (.ref 394), some (.int (nI core)), some (.int (nI (kCt core 24))), some (.int (nI op)), some (.int (nI i)), none] [] z (fun r z => r = none ∧ kEq kSK u z ∧ ∃ c, c < 2 ^ 20 ∧ z.2.1 394 3 = nI c ∧ z.2.1 394 4 = nI (kCt c 24) ∧ kPX (kFm (kTt g (kN g 2)) core op) b c)) (kN g 2) ?_ (fun i hi ih => ?_) _ b0 E1 w3 w4 bl (kPX_c pp (fun Y => kFmI_0))
      · intro z c E z3 z4 hcl hP
        have hv := E.wd hu
        have hrv : kRS 1 g z := hr.of (fun a k h1 h2 => E.2.2.1 a k (by unfold kSK; omega)) hg
        have hTv : ∀ c, c < kN g 2 → z.2.1 396 c = nI ((kTt g (kN g 2)) c) := fun c hc => (E.2.2.1 396 c (by unfold kSK; omega)).trans (hT c hc)
        refine kv_iload dX8_grow_28 rfl ?_
        refine kv_aload_n dX8_grow_30 rfl ?_
        refine kw_gR dX8_grow_31 fX8_18 hv (by first | rfl | assumption) rfl rfl (by first | rfl | assumption) ?_
        refine kw_gI dX8_grow_34 fX8_58 hv (by first | rfl | assumption) rfl rfl ?_
        rw [hrv.n2, hw.1]
        refine kv_icmp_ge dX8_grow_37 104 (by decide) (fun h8 => ?_) (fun h8 => ?_)
        · exact kv_vret dX8_grow_104 rfl ⟨rfl, E, c, hcl, z3, z4, kPX_c hP (fun Y => kFmI_n hopn)⟩
        · exact absurd h8 (fun q => q (Int32.le_refl _))
      · have ihi := ih
        intro z c E z3 z4 hcl hP
        have hv := E.wd hu
        have hrv : kRS 1 g z := hr.of (fun a k h1 h2 => E.2.2.1 a k (by unfold kSK; omega)) hg
        have hTv : ∀ c, c < kN g 2 → z.2.1 396 c = nI ((kTt g (kN g 2)) c) := fun c hc => (E.2.2.1 396 c (by unfold kSK; omega)).trans (hT c hc)
        have hcb := kCt_b c 24
        have hTl : (kTt g (kN g 2)) i < 2 ^ 20 := kTt_lt (by omega) i
        have hop20 : op < 2 ^ 20 := Nat.lt_of_lt_of_le hop (Nat.pow_le_pow_right (by decide) (by omega))
        have hbl : (op &&& (kTt g (kN g 2)) i &&& (2 ^ i - 1)) < 2 ^ i := Nat.and_lt_two_pow _ (by have := Nat.two_pow_pos i; omega)
        have hbl20 : (op &&& (kTt g (kN g 2)) i &&& (2 ^ i - 1)) < 2 ^ 20 := Nat.lt_of_lt_of_le hbl (Nat.pow_le_pow_right (by decide) (by omega))
        have hblb := kCt_b (op &&& (kTt g (kN g 2)) i &&& (2 ^ i - 1)) 24
        have bc := kBc24 hbl20
        refine kv_iload dX8_grow_28 rfl ?_
        refine kv_aload_n dX8_grow_30 rfl ?_
        refine kw_gR dX8_grow_31 fX8_18 hv (by first | rfl | assumption) rfl rfl (by first | rfl | assumption) ?_
        refine kw_gI dX8_grow_34 fX8_58 hv (by first | rfl | assumption) rfl rfl ?_
        rw [hrv.n2, hw.1]
        refine kv_icmp_ge dX8_grow_37 104 (by decide) (fun h9 => ?_) (fun h9 => ?_)
        · exact absurd h9 (kn_ge hi (by omega))
        · refine kv_iload_n dX8_grow_40 rfl ?_
          refine kv_iload dX8_grow_41 rfl ?_
          refine kv_ishr dX8_grow_43 ?_
          refine kv_iconst dX8_grow_44 1 ki_1 ?_
          refine kv_iand dX8_grow_45 ?_
          refine kv_if_eq dX8_grow_46 98 (by decide) (fun h10 => ?_) (fun h10 => ?_)
          · have hb := kb_tf ((kBit0 (by omega)).mp h10)
            have hN := kPX_c hP (kFmI_no hb)
            refine kv_iinc (ls2 := [_, _, _, _, _, _]) dX8_grow_98 (nI (i + 1)) rfl (kv_inc1 i) rfl rfl rfl rfl ?_
            refine kv_goto dX8_grow_101 28 (by decide) ?_
            first
            | exact KV.loc (ihi _ _ E z3 z4 hcl hN) (ksS rfl (ksS rfl (ksS rfl (ksS rfl (ksS rfl (ks0 ksN))))))
            | exact KV.loc (ihi _ _ E2 y3 y4 hdl (kPX_c (kPX_or hP pd (kFmI_ord hdj hb hcore hop20)) hY)) (ksS rfl (ksS rfl (ksS rfl (ksS rfl (ksS rfl (ks0 ksN))))))
          · have hb := kb_tb (Classical.byContradiction fun q => h10 ((kBit0 (by omega)).mpr q))
            have hiF : i < F := kBit_l hop hb
            have hsy : ∀ j, op.testBit j = true → ((kTt g (kN g 2)) i).testBit j = true → ((kTt g (kN g 2)) j).testBit i = true := fun j _ q => kTt_sym hi q
            have hY := kFmI_y (T := (kTt g (kN g 2))) (core := core) hb hsy
            have hci : kDj core (2 ^ i) := fun j p q => by
              rw [Nat.testBit_two_pow, decide_eq_true_iff] at q
              rw [← q] at p
              exact hdj i p hb
            have hd2 : kDj (core ||| 2 ^ i) (op &&& (kTt g (kN g 2)) i &&& (2 ^ i - 1)) := fun j p q => by
              rw [kBl_tb, Bool.and_eq_true, Bool.and_eq_true, decide_eq_true_iff] at q
              rw [Nat.testBit_or, Nat.testBit_two_pow, Bool.or_eq_true, decide_eq_true_iff] at p
              rcases p with p | p
              · exact hdj j p q.1.1
              · omega
            have hsz : kCt (core ||| 2 ^ i) 24 = kCt core 24 + 1 := by rw [kDj_ct hci, kOne_ct i (by omega)]
            have hc2 : core ||| 2 ^ i < 2 ^ 20 := Nat.or_lt_two_pow hcore (Nat.pow_lt_pow_right (by decide) (by omega))
            refine kv_iload_n dX8_grow_49 rfl ?_
            refine kv_aload_n dX8_grow_50 rfl ?_
            refine kw_gR dX8_grow_51 fX8_15 hv (by first | rfl | assumption) rfl rfl (by first | rfl | assumption) ?_
            refine kv_iload dX8_grow_54 rfl ?_
            refine kw_il dX8_grow_56 hv (by first | rfl | assumption) (i) rfl (by omega) rfl ?_
            rw [hTv i hi]
            refine kv_iand dX8_grow_57 ?_
            refine kv_iconst dX8_grow_58 1 ki_1 ?_
            refine kv_iload dX8_grow_59 rfl ?_
            refine kv_ishl dX8_grow_61 ?_
            refine kv_iconst dX8_grow_62 1 ki_1 ?_
            refine kv_isub dX8_grow_63 ?_
            refine kv_iand dX8_grow_64 ?_
            rw [show (nI op &&& nI ((kTt g (kN g 2)) i) &&& ((1 : Int32) <<< (nI i &&& 31) - 1)) = nI (op &&& (kTt g (kN g 2)) i &&& (2 ^ i - 1)) from by rw [kn_pow i (by omega), show (nI (2 ^ i) - 1 : Int32) = nI (2 ^ i - 1) from kn_sub rfl (show (1 : Int32) = nI 1 from rfl) (Nat.two_pow_pos i), kn_and, kn_and]]
            refine kv_istore (ls2 := [_, _, _, _, _, _]) dX8_grow_65 rfl rfl rfl rfl ?_
            refine kv_iload_n dX8_grow_67 rfl ?_
            refine kv_iconst dX8_grow_68 1 ki_1 ?_
            refine kv_iadd dX8_grow_69 ?_
            refine kv_iload dX8_grow_70 rfl ?_
            refine kw_Si [_] mJ6_bitCount_0f7a4 dX8_grow_72 lX8_34 wJ6_bitCount_0f7a4 rfl rfl rfl (qJ6_bitCount_0f7a4 hv _) (by omega) ?_
            rw [bc]
            refine kv_iadd dX8_grow_75 ?_
            refine kv_aload_n dX8_grow_76 rfl ?_
            refine kw_gI dX8_grow_77 fX8_83 hv (by first | rfl | assumption) rfl rfl ?_
            rw [z4]
            rw [show (nI (kCt core 24) + 1 + nI (kCt (op &&& (kTt g (kN g 2)) i &&& (2 ^ i - 1)) 24) : Int32) = nI (kCt core 24 + 1 + kCt (op &&& (kTt g (kN g 2)) i &&& (2 ^ i - 1)) 24) from kn_add (kn_add rfl (show (1 : Int32) = nI 1 from rfl)) rfl]
            refine kv_icmp_le dX8_grow_80 98 (by decide) (fun h11 => ?_) (fun h11 => ?_)
            · have hle : kCt core 24 + 1 + kCt (op &&& (kTt g (kN g 2)) i &&& (2 ^ i - 1)) 24 ≤ kCt c 24 := (nI_leI (by omega) (by omega)).mp h11
              have hN := kPX_c (kPX_or hP (kPX_no (b := c) (F := kFm (kTt g (kN g 2)) (core ||| 2 ^ i) (op &&& (kTt g (kN g 2)) i &&& (2 ^ i - 1))) (fun Y q => by have := kFm_sz hd2 q; omega)) (kFmI_ord hdj hb hcore hop20)) hY
              refine kv_iinc (ls2 := [_, _, _, _, _, _]) dX8_grow_98 (nI (i + 1)) rfl (kv_inc1 i) rfl rfl rfl rfl ?_
              refine kv_goto dX8_grow_101 28 (by decide) ?_
              first
              | exact KV.loc (ihi _ _ E z3 z4 hcl hN) (ksS rfl (ksS rfl (ksS rfl (ksS rfl (ksS rfl (ks0 ksN))))))
              | exact KV.loc (ihi _ _ E2 y3 y4 hdl (kPX_c (kPX_or hP pd (kFmI_ord hdj hb hcore hop20)) hY)) (ksS rfl (ksS rfl (ksS rfl (ksS rfl (ksS rfl (ks0 ksN))))))
            · refine kv_aload_n dX8_grow_83 rfl ?_
              refine kv_iload_n dX8_grow_84 rfl ?_
              refine kv_iconst dX8_grow_85 1 ki_1 ?_
              refine kv_iload dX8_grow_86 rfl ?_
              refine kv_ishl dX8_grow_88 ?_
              refine kv_ior dX8_grow_89 ?_
              refine kv_iload_n dX8_grow_90 rfl ?_
              refine kv_iconst dX8_grow_91 1 ki_1 ?_
              refine kv_iadd dX8_grow_92 ?_
              refine kv_iload dX8_grow_93 rfl ?_
              rw [show (nI core ||| (1 : Int32) <<< (nI i &&& 31)) = nI (core ||| 2 ^ i) from (congrArg (fun z => nI core ||| z) (kn_pow i (by omega))).trans (kn_or _ _), show (nI (kCt core 24) + 1 : Int32) = nI (kCt (core ||| 2 ^ i) 24) from (kn_add rfl (show (1 : Int32) = nI 1 from rfl)).trans (by rw [hsz])]
              refine kw_VQ [_, _, _] mX8_grow dX8_grow_95 lX8_86 wX8_grow kC8 hv rfl (by first | rfl | assumption) rfl rfl rfl (hI i hiF (core ||| 2 ^ i) (op &&& (kTt g (kN g 2)) i &&& (2 ^ i - 1)) c z hbl hd2 hc2 hcl E z3 z4) (by omega) (fun _ v1 q1 => ?_)
              obtain ⟨rfl, E2, d, hdl, y3, y4, pd⟩ := q1
              have hv1 := E2.wd hu
              refine kv_iinc (ls2 := [_, _, _, _, _, _]) dX8_grow_98 (nI (i + 1)) rfl (kv_inc1 i) rfl rfl rfl rfl ?_
              refine kv_goto dX8_grow_101 28 (by decide) ?_
              first
              | exact KV.loc (ihi _ _ E z3 z4 hcl hN) (ksS rfl (ksS rfl (ksS rfl (ksS rfl (ksS rfl (ks0 ksN))))))
              | exact KV.loc (ihi _ _ E2 y3 y4 hdl (kPX_c (kPX_or hP pd (kFmI_ord hdj hb hcore hop20)) hY)) (ksS rfl (ksS rfl (ksS rfl (ksS rfl (ksS rfl (ks0 ksN))))))
    · have h20 : 20 ≤ kCt core 24 := Nat.le_of_not_lt (fun q => h7 (nI_lt (b := 20) q (by omega)))
      have hz := kFull20 hcore h20 hdj (Nat.lt_of_lt_of_le hop (Nat.pow_le_pow_right (by decide) (by omega)))
      have pz : kPX (kFm (kTt g (kN g 2)) core op) b b0 := by rw [hz]; exact kPX_c pp (fun Y => kFm_0)
      exact kv_vret dX8_grow_24 rfl ⟨rfl, E1, b0, bl, w3, w4, pz⟩

theorem qX8_grow {w : KW} {l : Launch} {u : KMem} (hu : kWd u) {g : Nat → Int32} (hr : kRS 1 g u) (hg : kGI g) (hT : ∀ c, c < kN g 2 → u.2.1 396 c = nI ((kTt g (kN g 2)) c)) : ∀ N F, F < N → F ≤ kN g 2 → ∀ (core op b : Nat) (v : KMem), op < 2 ^ F → kDj core op → core < 2 ^ 20 → b < 2 ^ 20 → kEq kSK u v → v.2.1 394 3 = nI b → v.2.1 394 4 = nI (kCt b 24) → KC w l mX8_grow (F + 1) 0 0 [.ref 394, .int (nI core), .int (nI (kCt core 24)), .int (nI op)] v (fun r z => r = none ∧ kEq kSK u z ∧ ∃ c, c < 2 ^ 20 ∧ z.2.1 394 3 = nI c ∧ z.2.1 394 4 = nI (kCt c 24) ∧ kPX (kFm (kTt g (kN g 2)) core op) b c)
  | 0, F, h, _ => absurd h (Nat.not_lt_zero F)
  | N + 1, F, h, hF => qX8_grow_s hu hr hg hT F hF (fun i hi => qX8_grow hu hr hg hT N i (by omega) (by omega))
set_option maxRecDepth 20000 in
set_option maxHeartbeats 4000000 in
theorem qX8_greatestCore {w : KW} {l : Launch} {u : KMem} (hu : kWd u) {g : Nat → Int32} (hr : kRS 1 g u) (hg : kGI g) (hT : ∀ c, c < kN g 2 → u.2.1 396 c = nI ((kTt g (kN g 2)) c)) : KC w l mX8_greatestCore 23 0 0 [.ref 394] u (fun r z => r = some (.int (nI (kCoreV (kTt g (kN g 2)) (kN g 2)))) ∧ kEq kSK u z) := by
  have hx20 := (hg.cnt (k := 2) rfl).2
  have hw := hg.cnt (k := 2) rfl
  refine KC.of (ls := [_]) rfl rfl (Nat.le_of_ble_eq_true rfl) ?_
  refine kv_aload_n dX8_greatestCore_0 rfl ?_
  refine kv_iconst dX8_greatestCore_1 0 ki_0 ?_
  refine kw_pI dX8_greatestCore_2 fX8_80 hu (by first | rfl | assumption) rfl rfl ?_
  refine kv_aload_n dX8_greatestCore_5 rfl ?_
  refine kv_iconst dX8_greatestCore_6 0 ki_0 ?_
  refine kw_pI dX8_greatestCore_7 fX8_83 hu (by first | rfl | assumption) rfl rfl ?_
  refine kv_aload_n dX8_greatestCore_10 rfl ?_
  refine kv_iconst dX8_greatestCore_11 0 ki_0 ?_
  refine kv_iconst dX8_greatestCore_12 0 ki_0 ?_
  refine kv_iconst dX8_greatestCore_13 1 ki_1 ?_
  refine kv_aload_n dX8_greatestCore_14 rfl ?_
  refine kw_gR dX8_greatestCore_15 fX8_18 hu (by first | rfl | assumption) rfl rfl (by first | rfl | assumption) ?_
  refine kw_gI dX8_greatestCore_18 fX8_58 hu (by first | rfl | assumption) rfl rfl ?_
  rw [kv_si_a (by decide), kv_si_a (by decide), hr.n2, hw.1]
  refine kv_ishl dX8_greatestCore_21 ?_
  refine kv_iconst dX8_greatestCore_22 1 ki_1 ?_
  refine kv_isub dX8_greatestCore_23 ?_
  rw [show ((1 : Int32) <<< (nI (kN g 2) &&& 31) - 1) = nI (2 ^ kN g 2 - 1) from by rw [kn_pow _ (by omega)]; exact kn_sub rfl (show (1 : Int32) = nI 1 from rfl) (Nat.two_pow_pos _)]
  refine kw_VQ [_, _, _] mX8_grow dX8_greatestCore_24 lX8_86 wX8_grow kC8 hu rfl (by first | rfl | assumption) rfl rfl rfl (qX8_grow hu hr hg hT 21 (kN g 2) (by omega) (Nat.le_refl _) 0 (2 ^ kN g 2 - 1) 0 (kv_si (kv_si u 394 3 0) 394 4 0) (by have := Nat.two_pow_pos (kN g 2); omega) (fun i p => by rw [Nat.zero_testBit] at p; exact absurd p (by decide)) (by decide) (by decide) ((kEq.rf.si ⟨rfl, Or.inl rfl⟩).si ⟨rfl, Or.inr rfl⟩) ((kv_si_n (by omega)).trans (kv_si_s _ _ _ _)) (kv_si_s _ _ _ _)) (by omega) (fun _ v1 q1 => ?_)
  obtain ⟨rfl, E2, c, hcl, y3, y4, pd⟩ := q1
  have hv1 := E2.wd hu
  have hbest := kCoreV_is (kPX_best pd)
  refine kv_aload_n dX8_greatestCore_27 rfl ?_
  refine kw_gI dX8_greatestCore_28 fX8_80 hv1 (by first | rfl | assumption) rfl rfl ?_
  rw [y3]
  exact kv_iret dX8_greatestCore_31 rfl ⟨by rw [hbest], E2⟩

set_option maxRecDepth 20000 in
set_option maxHeartbeats 4000000 in
theorem qX11_core {w : KW} {l : Launch} {u : KMem} (hu : kWd u) {a : KA} (hx : kRX a u) (ho : kOk a) : KC w l mX11_core 24 0 0 [.ref 0] u (kOX u (kcore a).1 (kcore a).2) := by
  have hr := hx.1
  have hg := ho.1
  have hx20 := (hg.cnt (k := 2) rfl).2
  have hc30 := (hg.cnt (k := 0) rfl).2
  have ht10 := (hg.cnt (k := 3) rfl).2
  have he40 := (hg.cnt (k := 4) rfl).2
  have hs16 := hg.cnt (k := 1) rfl
  refine KC.of (ls := [_]) rfl rfl (Nat.le_of_ble_eq_true rfl) ?_
  refine kv_aload_n dX11_core_0 rfl ?_
  refine kw_gR dX11_core_1 fX11_47 hu (by first | rfl | assumption) rfl rfl (by first | rfl | assumption) ?_
  refine kw_VQ [] mX8_tieAll dX11_core_4 lX11_347 wX8_tieAll kC8 hu rfl (by first | rfl | assumption) rfl rfl rfl (qX8_tieAll hu hr hg) (by decide) (fun _ v1 q1 => ?_)
  obtain ⟨rfl, e0, hT⟩ := q1
  have e1 : kEq kSX u v1 := e0.wk (fun a k q => Or.inl (by unfold kS96 at q; omega))
  have hr1 := hr.eqX hg e1
  have hu1 := e1.wd hu
  have E1 := e1
  refine kv_aload_n dX11_core_7 rfl ?_
  refine kw_gR dX11_core_8 fX11_47 hu1 (by first | rfl | assumption) rfl rfl (by first | rfl | assumption) ?_
  refine kw_VQ [] mX8_greatestCore dX11_core_11 lX11_356 wX8_greatestCore kC8 hu1 rfl (by first | rfl | assumption) rfl rfl rfl (qX8_greatestCore hu1 hr1 hg hT) (by decide) (fun _ v2 q2 => ?_)
  obtain ⟨rfl, eK⟩ := q2
  have e2 : kEq kSX v1 v2 := eK.wk (fun a k q => Or.inl (by unfold kSK at q; omega))
  have hu2 := e2.wd hu1
  have E2 := E1.tr e2
  exact kv_iret dX11_core_14 rfl (by exact kOX.id hx ho hu E2 rfl)

