/-! core of the model -/
theorem kShL1 {op L : Nat} (h : op < 2 ^ (L + 1)) : op / 2 ^ L ≤ 1 := by
  have : op / 2 ^ L < 2 := Nat.div_lt_of_lt_mul (by rw [Nat.pow_succ] at h; exact h)
  omega
theorem kShL2 {op L i : Nat} (h : 2 ^ L ≤ op) (hi : i < L) : 2 ≤ op / 2 ^ i := by
  refine (Nat.le_div_iff_mul_le (Nat.two_pow_pos i)).mpr (Nat.le_trans ?_ h)
  have := Nat.pow_le_pow_right (n := 2) (by decide) (show i + 1 ≤ L from hi)
  rw [Nat.pow_succ] at this
  omega
set_option maxRecDepth 20000 in
set_option maxHeartbeats 4000000 in
theorem qX12_grows_s {w : KW} {l : Launch} {u : KMem} (hu : kWd u) {g : Nat → Int32} (eg : u.2.1 414 = g) (hg : kGI g) (hT : ∀ c, c < kN g 2 → u.2.1 425 c = nI ((kTt g (kN g 2)) c)) (F : Nat) (hF : F ≤ kN g 2) (hI : ∀ i, i < F → ∀ (core op b : Nat) (v : KMem), op < 2 ^ i → kDj core op → core < 2 ^ 20 → b < 2 ^ 20 → kEq kSK2 u v → v.2.1 413 19 = nI b → KC w l mX12_grows (i + 1) 0 0 [.ref 413, .int (nI core), .int (nI op)] v (fun r z => r = none ∧ kEq kSK2 u z ∧ ∃ c, c < 2 ^ 20 ∧ z.2.1 413 19 = nI c ∧ kPM (kFm (kTt g (kN g 2)) core op) b c)) (core op b : Nat) (v : KMem) (hop : op < 2 ^ F) (hdj : kDj core op) (hcore : core < 2 ^ 20) (hbl_ : b < 2 ^ 20) (E0 : kEq kSK2 u v) (v19 : v.2.1 413 19 = nI b) : KC w l mX12_grows (F + 1) 0 0 [.ref 413, .int (nI core), .int (nI op)] v (fun r z => r = none ∧ kEq kSK2 u z ∧ ∃ c, c < 2 ^ 20 ∧ z.2.1 413 19 = nI c ∧ kPM (kFm (kTt g (kN g 2)) core op) b c) := by
  have hx20 := (hg.cnt (k := 2) rfl).2
  have hw := hg.cnt (k := 2) rfl
  have hv0 := E0.wd hu
  have hcb0 := kCt_b core 24
  have hbb0 := kCt_b b 24
  have hob0 := kCt_b op 24
  have hop20 : op < 2 ^ 20 := Nat.lt_of_lt_of_le hop (Nat.pow_le_pow_right (by decide) (by omega))
  refine KC.of (ls := [_, _, _, _, _]) rfl rfl (Nat.le_of_ble_eq_true rfl) ?_
  refine kv_iload_n dX12_grows_0 rfl ?_
  refine kw_Si [_] mX12_bits dX12_grows_1 lX12_149 wX12_bits rfl rfl rfl (qX12_bits (by exact hv0) _) (by omega) ?_
  rw [kBits_ct 24 (by omega)]
  refine kv_iload_n dX12_grows_4 rfl ?_
  refine kw_Si [_] mX12_bits dX12_grows_5 lX12_149 wX12_bits rfl rfl rfl (qX12_bits (by exact hv0) _) (by omega) ?_
  rw [kBits_ct 24 (by omega)]
  refine kv_iadd dX12_grows_8 ?_
  rw [show (nI (kCt core 24) + nI (kCt op 24) : Int32) = nI (kCt core 24 + kCt op 24) from kn_add rfl rfl]
  refine kv_istore_n (ls2 := [_, _, _, _, _]) dX12_grows_9 rfl rfl rfl rfl ?_
  refine kv_iload_n dX12_grows_10 rfl ?_
  refine kv_aload_n dX12_grows_11 rfl ?_
  refine kw_gI dX12_grows_12 fX12_342 hv0 (by first | rfl | assumption) rfl rfl ?_
  rw [v19]
  refine kw_Si [_] mX12_bits dX12_grows_15 lX12_149 wX12_bits rfl rfl rfl (qX12_bits (by exact hv0) _) (by omega) ?_
  rw [kBits_ct 24 (by omega)]
  refine kv_icmp_ge dX12_grows_18 22 (by decide) (fun h1 => ?_) (fun h1 => ?_)
  · have hq2 : ¬ kCt core 24 + kCt op 24 < kCt b 24 := Nat.not_lt.mpr ((nI_leI (by omega) (by omega)).mp h1)
    refine kv_iload_n dX12_grows_22 rfl ?_
    refine kv_if_ne dX12_grows_23 58 (by decide) (fun h2 => ?_) (fun h2 => ?_)
    · have hne : ¬ op = 0 := fun q => h2 (by rw [q]; rfl)
      obtain ⟨L, l1, l2, lb⟩ : ∃ L, 2 ^ L ≤ op ∧ op < 2 ^ (L + 1) ∧ op.testBit L = true := ⟨op.log2, Nat.log2_self_le hne, Nat.lt_log2_self, Nat.testBit_log2 hne⟩
      have hLF : L < F := kBit_l hop lb
      have hLi : ((kTt g (kN g 2)) L).testBit L = false := kTt_ir g _ L
      have hop1 : op ^^^ 2 ^ L < 2 ^ L := kLt_bit (Nat.xor_lt_two_pow l2 (Nat.pow_lt_pow_right (by decide) (by omega))) (kXs lb)
      have hd1 : kDj core (op ^^^ 2 ^ L) := kDj_sb hdj (kX_split lb).2.1
      have hop2 : op &&& (kTt g (kN g 2)) L < 2 ^ L := kLt_bit (Nat.lt_of_le_of_lt Nat.and_le_left l2) (by rw [Nat.testBit_and, hLi, Bool.and_false])
      have hd2 : kDj (core ||| 2 ^ L) (op &&& (kTt g (kN g 2)) L) := fun j p q => by
        rw [Nat.testBit_and, Bool.and_eq_true] at q
        rw [Nat.testBit_or, Nat.testBit_two_pow, Bool.or_eq_true, decide_eq_true_iff] at p
        rcases p with p | p
        · exact hdj j p q.1
        · rw [← p, hLi] at q; exact absurd q.2 (by decide)
      have hc2 : core ||| 2 ^ L < 2 ^ 20 := Nat.or_lt_two_pow hcore (Nat.pow_lt_pow_right (by decide) (by omega))
      have hsy : ∀ j, op.testBit j = true → ((kTt g (kN g 2)) L).testBit j = true → ((kTt g (kN g 2)) j).testBit L = true := fun j _ q => kTt_sym (by omega) q
      refine kv_iconst dX12_grows_58 0 ki_0 ?_
      refine kv_istore (ls2 := [_, _, _, _, _]) dX12_grows_59 rfl rfl rfl rfl ?_
      refine KV.loc (ls2 := [some (.ref 413), some (.int (nI core)), some (.int (nI op)), some (.int (nI (kCt core 24 + kCt op 24))), some (.int (nI (0)))]) ?_ (ksS rfl (ksS rfl (ksS rfl (ksS rfl (ksS rfl ksN)))))
      refine kn_loop (P := fun i => KV w l mX12_grows (F + 1) 0 0 61 [some (.ref 413), some (.int (nI core)), some (.int (nI op)), some (.int (nI (kCt core 24 + kCt op 24))), some (.int (nI (i)))] [] v (fun r z => r = none ∧ kEq kSK2 u z ∧ ∃ c, c < 2 ^ 20 ∧ z.2.1 413 19 = nI c ∧ kPM (kFm (kTt g (kN g 2)) core op) b c)) (L) ?_ (fun i hi ih => ?_)
      · refine kv_iload_n dX12_grows_61 rfl ?_
        refine kv_iload dX12_grows_62 rfl ?_
        refine kv_ishr dX12_grows_64 ?_
        first
        | rw [kn_shr (k := op) (n := i) (by omega) (by omega)]
        | rw [kn_shr (k := op) (n := L) (by omega) (by omega)]
        refine kv_iconst dX12_grows_65 1 ki_1 ?_
        refine kv_icmp_le dX12_grows_66 75 (by decide) (fun h3 => ?_) (fun h3 => ?_)
        · refine kv_aload_n dX12_grows_75 rfl ?_
          refine kv_iload_n dX12_grows_76 rfl ?_
          refine kv_iload_n dX12_grows_77 rfl ?_
          refine kv_iconst dX12_grows_78 1 ki_1 ?_
          refine kv_iload dX12_grows_79 rfl ?_
          refine kv_ishl dX12_grows_81 ?_
          rw [kn_pow L (by omega)]
          refine kv_iconst dX12_grows_82 (-1) ki_m1 ?_
          refine kv_ixor dX12_grows_83 ?_
          refine kv_iand dX12_grows_84 ?_
          rw [kb_andn, kn_and, kn_xor, kClr1 op L lb]
          refine kw_VQ [_, _] mX12_grows dX12_grows_85 lX12_345 wX12_grows kC12 hv0 rfl (by first | rfl | assumption) rfl rfl rfl (hI L hLF core (op ^^^ 2 ^ L) b v hop1 hd1 hcore hbl_ E0 v19) (by omega) (fun _ v1 q1 => ?_)
          obtain ⟨rfl, E1, c, hcl, y19, p1⟩ := q1
          have hv1 := E1.wd hu
          have hTv : v1.2.1 425 L = nI ((kTt g (kN g 2)) L) := (E1.2.2.1 425 L (by unfold kSK2; omega)).trans (hT L (by omega))
          refine kv_aload_n dX12_grows_88 rfl ?_
          refine kv_iload_n dX12_grows_89 rfl ?_
          refine kv_iconst dX12_grows_90 1 ki_1 ?_
          refine kv_iload dX12_grows_91 rfl ?_
          refine kv_ishl dX12_grows_93 ?_
          rw [kn_pow L (by omega)]
          refine kv_ior dX12_grows_94 ?_
          rw [kn_or]
          refine kv_iload_n dX12_grows_95 rfl ?_
          refine kv_aload_n dX12_grows_96 rfl ?_
          refine kw_gR dX12_grows_97 fX12_53 hv1 (by first | rfl | assumption) rfl rfl (by first | rfl | assumption) ?_
          refine kv_iload dX12_grows_100 rfl ?_
          refine kw_il dX12_grows_102 hv1 (by first | rfl | assumption) (L) rfl (by omega) rfl ?_
          rw [hTv]
          refine kv_iand dX12_grows_103 ?_
          rw [kn_and]
          refine kw_VQ [_, _] mX12_grows dX12_grows_104 lX12_345 wX12_grows kC12 hv1 rfl (by first | rfl | assumption) rfl rfl rfl (hI L hLF (core ||| 2 ^ L) (op &&& (kTt g (kN g 2)) L) c v1 hop2 hd2 hc2 hcl E1 y19) (by omega) (fun _ v2 q2 => ?_)
          obtain ⟨rfl, E2, d, hdl, z19, p2⟩ := q2
          have hv2 := E2.wd hu
          exact kv_vret dX12_grows_107 rfl ⟨rfl, E2, d, hdl, z19, kPM_c (kPM_or p1 p2) (kFm_s lb hLi hsy)⟩
        · exact absurd (nI_le (b := 1) (kShL1 l2) (by omega)) h3
      · refine kv_iload_n dX12_grows_61 rfl ?_
        refine kv_iload dX12_grows_62 rfl ?_
        refine kv_ishr dX12_grows_64 ?_
        first
        | rw [kn_shr (k := op) (n := i) (by omega) (by omega)]
        | rw [kn_shr (k := op) (n := L) (by omega) (by omega)]
        refine kv_iconst dX12_grows_65 1 ki_1 ?_
        refine kv_icmp_le dX12_grows_66 75 (by decide) (fun h4 => ?_) (fun h4 => ?_)
        · have := kShL2 l1 hi
          have hdl := Nat.div_le_self op (2 ^ i)
          have := (nI_leI (b := 1) (by omega) (by omega)).mp h4
          omega
        · refine kv_iinc (ls2 := [_, _, _, _, _]) dX12_grows_69 (nI (i + 1)) rfl (kv_inc1 i) rfl rfl rfl rfl ?_
          refine kv_goto dX12_grows_72 61 (by decide) ?_
          exact KV.loc ih (ksS rfl (ksS rfl (ksS rfl (ksS rfl (ksS rfl ksN)))))
    · have hz : op = 0 := (nI_eq (b := 0) (by omega) (by omega)).mp h2
      have pF : ∀ Y, kFm (kTt g (kN g 2)) core op Y ↔ Y = core := by rw [hz]; exact fun Y => kFm_0
      have hz0 : kCt op 24 = 0 := by rw [hz]; decide
      refine kv_aload_n dX12_grows_26 rfl ?_
      refine kv_iload_n dX12_grows_27 rfl ?_
      refine kv_aload_n dX12_grows_28 rfl ?_
      refine kw_gI dX12_grows_29 fX12_342 hv0 (by first | rfl | assumption) rfl rfl ?_
      rw [v19]
      refine kw_Si [_] mX12_bits dX12_grows_32 lX12_149 wX12_bits rfl rfl rfl (qX12_bits (by exact hv0) _) (by omega) ?_
      rw [kBits_ct 24 (by omega)]
      refine kv_icmp_gt dX12_grows_35 46 (by decide) (fun h5 => ?_) (fun h5 => ?_)
      · have hq := (nI_ltI (by omega) (by omega)).mp h5
        have cl_ := hcore
        have pc_ : kPM (kFm (kTt g (kN g 2)) core op) b core := ⟨Or.inr ((pF core).mpr rfl), Or.inl (by omega), fun Y q => by rw [(pF Y).mp q]; exact kLe2.rf _⟩
        refine kv_iload_n dX12_grows_46 rfl ?_
        refine kv_goto dX12_grows_47 54 (by decide) ?_
        refine kw_pI dX12_grows_54 fX12_342 hv0 (by first | rfl | assumption) rfl rfl ?_
        exact kv_vret dX12_grows_57 rfl ⟨rfl, E0.si ⟨rfl, rfl⟩, _, cl_, kv_si_s _ _ _ _, pc_⟩
      · have hq : ¬ kCt b 24 < kCt core 24 + kCt op 24 := fun q => h5 (nI_lt q (by omega))
        have hge : kCt b 24 ≤ kCt core 24 + kCt op 24 := Nat.le_of_not_lt hq2
        refine kv_iload_n dX12_grows_38 rfl ?_
        refine kv_aload_n dX12_grows_39 rfl ?_
        refine kw_gI dX12_grows_40 fX12_342 hv0 (by first | rfl | assumption) rfl rfl ?_
        rw [v19]
        refine kv_icmp_ge dX12_grows_43 50 (by decide) (fun h6 => ?_) (fun h6 => ?_)
        · have hq3 := (nI_leI (by omega) (by omega)).mp h6
          have cl_ := hbl_
          have pc_ : kPM (kFm (kTt g (kN g 2)) core op) b b := ⟨Or.inl rfl, kLe2.rf _, fun Y q => by rw [(pF Y).mp q]; exact Or.inr ⟨by omega, hq3⟩⟩
          refine kv_aload_n dX12_grows_50 rfl ?_
          refine kw_gI dX12_grows_51 fX12_342 hv0 (by first | rfl | assumption) rfl rfl ?_
          rw [v19]
          refine kw_pI dX12_grows_54 fX12_342 hv0 (by first | rfl | assumption) rfl rfl ?_
          exact kv_vret dX12_grows_57 rfl ⟨rfl, E0.si ⟨rfl, rfl⟩, _, cl_, kv_si_s _ _ _ _, pc_⟩
        · have hq3 : core < b := Nat.lt_of_not_le (fun q => h6 (nI_le q (by omega)))
          have cl_ := hcore
          have pc_ : kPM (kFm (kTt g (kN g 2)) core op) b core := ⟨Or.inr ((pF core).mpr rfl), Or.inr ⟨by omega, by omega⟩, fun Y q => by rw [(pF Y).mp q]; exact kLe2.rf _⟩
          refine kv_iload_n dX12_grows_46 rfl ?_
          refine kv_goto dX12_grows_47 54 (by decide) ?_
          refine kw_pI dX12_grows_54 fX12_342 hv0 (by first | rfl | assumption) rfl rfl ?_
          exact kv_vret dX12_grows_57 rfl ⟨rfl, E0.si ⟨rfl, rfl⟩, _, cl_, kv_si_s _ _ _ _, pc_⟩
  · have hlt : kCt core 24 + kCt op 24 < kCt b 24 := Nat.lt_of_not_le (fun q => h1 (nI_le q (by omega)))
    exact kv_vret dX12_grows_21 rfl ⟨rfl, E0, b, hbl_, v19, Or.inl rfl, kLe2.rf _, fun Y q => Or.inl (by have := kFm_sz hdj q; omega)⟩

theorem qX12_grows {w : KW} {l : Launch} {u : KMem} (hu : kWd u) {g : Nat → Int32} (eg : u.2.1 414 = g) (hg : kGI g) (hT : ∀ c, c < kN g 2 → u.2.1 425 c = nI ((kTt g (kN g 2)) c)) : ∀ N F, F < N → F ≤ kN g 2 → ∀ (core op b : Nat) (v : KMem), op < 2 ^ F → kDj core op → core < 2 ^ 20 → b < 2 ^ 20 → kEq kSK2 u v → v.2.1 413 19 = nI b → KC w l mX12_grows (F + 1) 0 0 [.ref 413, .int (nI core), .int (nI op)] v (fun r z => r = none ∧ kEq kSK2 u z ∧ ∃ c, c < 2 ^ 20 ∧ z.2.1 413 19 = nI c ∧ kPM (kFm (kTt g (kN g 2)) core op) b c)
  | 0, F, h, _ => absurd h (Nat.not_lt_zero F)
  | N + 1, F, h, hF => qX12_grows_s hu eg hg hT F hF (fun i hi => qX12_grows hu eg hg hT N i (by omega) (by omega))
set_option maxRecDepth 20000 in
set_option maxHeartbeats 4000000 in
theorem qX12_core {w : KW} {l : Launch} {u : KMem} (hu : kWd u) {a : KA} (hm : kRM a u) (ho : kOk a) : KC w l mX12_core 24 0 0 [.ref 413] u (kOM u (kcore a).1 (kcore a).2) := by
  have eg := hm.1
  have hg := ho.1
  have hx20 := (hg.cnt (k := 2) rfl).2
  have hc30 := (hg.cnt (k := 0) rfl).2
  have ht10 := (hg.cnt (k := 3) rfl).2
  have he40 := (hg.cnt (k := 4) rfl).2
  have hs16 := hg.cnt (k := 1) rfl
  have hw := hg.cnt (k := 2) rfl
  refine KC.of (ls := [_]) rfl rfl (Nat.le_of_ble_eq_true rfl) ?_
  refine kv_aload_n dX12_core_0 rfl ?_
  refine kw_VQ [] mX12_findTies dX12_core_1 lX12_336 wX12_findTies kC12 hu rfl (by first | rfl | assumption) rfl rfl rfl (qX12_findTies hu eg hg) (by omega) (fun _ v1 q1 => ?_)
  obtain ⟨rfl, e0, hT⟩ := q1
  have e1 : kEq kSM u v1 := e0.wk (fun a k q => Or.inl (by unfold kS25 at q; omega))
  have hu1 := e1.wd hu
  have E1 := e1
  have eg1 : v1.2.1 414 = a 0 := (E1.row kSM_now).trans eg
  refine kv_aload_n dX12_core_4 rfl ?_
  refine kv_iconst dX12_core_5 0 ki_0 ?_
  refine kw_pI dX12_core_6 fX12_342 hu1 (by first | rfl | assumption) rfl rfl ?_
  have e2 : kEq kSM v1 (kv_si v1 413 19 0) := kEq.rf.si (Or.inr (Or.inr ⟨rfl, by decide, by decide⟩))
  have E2 := E1.tr e2
  have hu2 := e2.wd hu1
  have eg2 : (kv_si v1 413 19 0).2.1 414 = a 0 := (e2.row kSM_now).trans eg1
  refine kv_aload_n dX12_core_9 rfl ?_
  refine kv_iconst dX12_core_10 0 ki_0 ?_
  refine kv_iconst dX12_core_11 1 ki_1 ?_
  refine kv_aload_n dX12_core_12 rfl ?_
  refine kw_gR dX12_core_13 fX12_9 hu2 (by first | rfl | assumption) rfl rfl (by first | rfl | assumption) ?_
  refine kv_iconst dX12_core_16 2 ki_2 ?_
  refine kw_ig dX12_core_17 hu2 eg2 rfl (_) (show (2 : Int32) = nI 2 from rfl) (by omega) rfl ?_
  rw [hw.1]
  refine kv_ishl dX12_core_18 ?_
  refine kv_iconst dX12_core_19 1 ki_1 ?_
  refine kv_isub dX12_core_20 ?_
  rw [show ((1 : Int32) <<< (nI (kN (a 0) 2) &&& 31) - 1) = nI (2 ^ kN (a 0) 2 - 1) from by rw [kn_pow _ (by omega)]; exact kn_sub rfl (show (1 : Int32) = nI 1 from rfl) (Nat.two_pow_pos _)]
  refine kw_VQ [_, _] mX12_grows dX12_core_21 lX12_345 wX12_grows kC12 hu2 rfl (by first | rfl | assumption) rfl rfl rfl (qX12_grows hu1 eg1 hg hT 21 (kN (a 0) 2) (by omega) (Nat.le_refl _) 0 (2 ^ kN (a 0) 2 - 1) 0 (kv_si v1 413 19 0) (by have := Nat.two_pow_pos (kN (a 0) 2); omega) (fun i p => by rw [Nat.zero_testBit] at p; exact absurd p (by decide)) (by decide) (by decide) (kEq.rf.si ⟨rfl, rfl⟩) (kv_si_s _ _ _ _)) (by omega) (fun _ v3 q3 => ?_)
  obtain ⟨rfl, eK, c, hcl, y19, pd⟩ := q3
  have e3 : kEq kSM v1 v3 := eK.wk (fun a k q => Or.inr (Or.inr (by unfold kSK2 at q; omega)))
  have E3 := E1.tr e3
  have hu3 := E3.wd hu
  have hbest := kCoreV_is (kPM_best pd)
  refine kv_aload_n dX12_core_24 rfl ?_
  refine kw_gI dX12_core_25 fX12_342 hu3 (by first | rfl | assumption) rfl rfl ?_
  rw [y19]
  exact kv_iret dX12_core_28 rfl (by exact kOM.id hm hu E3 (congrArg nI hbest.symm))

