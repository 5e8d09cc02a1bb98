theorem kNl {x y : Int32} (h : ¬ x < y) : y ≤ x := by rw [kLe]; rw [kLt] at h; omega
theorem kLn {x y : Int32} (h : x < y) : ¬ y ≤ x := by rw [kLe]; rw [kLt] at h; omega
def kNam (u : KMem) (a b c d : Int32) (r : Option Value) (v : KMem) : Prop := r = none ∧ kEq kSX u v ∧ v.2.1 386 0 = a ∧ v.2.1 386 1 = b ∧ v.2.1 386 2 = c ∧ v.2.1 386 3 = d
def kBk (g : Nat → Int32) (x s : Nat) (coin : Int32) (loss : Int32) : Int32 :=
  kHold (if 0 ≤ kInF g 1 (g (328 + 7 * x + 2)) (kN g 3) then kGiven g (kInF g 1 (g (328 + 7 * x + 2)) (kN g 3)).toNatClampNeg coin (g (40 + 8 * kCarOf g x s + 3)) loss 0 else (if g (40 + 8 * kCarOf g x s + 3) < coin then g (40 + 8 * kCarOf g x s + 3) else coin)) coin
set_option maxRecDepth 20000 in
set_option maxHeartbeats 4000000 in
theorem qX3_name {w : KW} {l : Launch} {u : KMem} (hu : kWd u) (a b c d : Int32) : KC w l mX3_name 0 0 0 [.ref 385, .int a, .int b, .int c, .int d] u (kNam u a b c d) := by
  refine KC.of (ls := [_, _, _, _, _]) rfl rfl (Nat.le_of_ble_eq_true rfl) ?_
  refine kv_aload_n dX3_name_0 rfl ?_
  refine kw_gR dX3_name_1 fX3_9 hu (by first | rfl | assumption) rfl rfl (by first | rfl | assumption) ?_
  refine kv_iconst dX3_name_4 0 ki_0 ?_
  refine kv_iload_n dX3_name_5 rfl ?_
  refine kw_is dX3_name_6 hu (by first | rfl | assumption) (_) (show (0 : Int32) = nI 0 from rfl) (by omega) rfl ?_
  refine kv_aload_n dX3_name_7 rfl ?_
  refine kw_gR dX3_name_8 fX3_9 hu (by first | rfl | assumption) rfl rfl (by first | rfl | assumption) ?_
  refine kv_iconst dX3_name_11 1 ki_1 ?_
  refine kv_iload_n dX3_name_12 rfl ?_
  refine kw_is dX3_name_13 hu (by first | rfl | assumption) (_) (show (1 : Int32) = nI 1 from rfl) (by omega) rfl ?_
  refine kv_aload_n dX3_name_14 rfl ?_
  refine kw_gR dX3_name_15 fX3_9 hu (by first | rfl | assumption) rfl rfl (by first | rfl | assumption) ?_
  refine kv_iconst dX3_name_18 2 ki_2 ?_
  refine kv_iload_n dX3_name_19 rfl ?_
  refine kw_is dX3_name_20 hu (by first | rfl | assumption) (_) (show (2 : Int32) = nI 2 from rfl) (by omega) rfl ?_
  refine kv_aload_n dX3_name_21 rfl ?_
  refine kw_gR dX3_name_22 fX3_9 hu (by first | rfl | assumption) rfl rfl (by first | rfl | assumption) ?_
  refine kv_iconst dX3_name_25 3 ki_3 ?_
  refine kv_iload dX3_name_26 rfl ?_
  refine kw_is dX3_name_28 hu (by first | rfl | assumption) (_) (show (3 : Int32) = nI 3 from rfl) (by omega) rfl ?_
  exact kv_vret dX3_name_29 rfl ⟨rfl, ((((kEq.rf.si (Or.inl (by omega))).si (Or.inl (by omega))).si (Or.inl (by omega))).si (Or.inl (by omega))), by rw [kv_si_k (by decide), kv_si_k (by decide), kv_si_k (by decide), kv_si_s], by rw [kv_si_k (by decide), kv_si_k (by decide), kv_si_s], by rw [kv_si_k (by decide), kv_si_s], by rw [kv_si_s]⟩

set_option maxRecDepth 20000 in
set_option maxHeartbeats 4000000 in
theorem qX3_follow {w : KW} {l : Launch} {u : KMem} (hu : kWd u) {g : Nat → Int32} (hr : kRS 1 g u) (hg : kGI g) (t : Nat) (ht : t < kN g 3) {a b c d : Int32} (ha : u.2.1 386 0 = a) (hb : u.2.1 386 1 = b) (hcc : u.2.1 386 2 = c) (hd : u.2.1 386 3 = d) : KC w l mX3_follow 2 0 0 [.ref 385, .int (nI t)] u (kp kSX u (some (.int (kGiven g t a b c d)))) := by
  have hx20 := (hg.cnt (k := 2) rfl).2
  have hc30 := (hg.cnt (k := 0) rfl).2
  have ht10 := (hg.cnt (k := 3) rfl).2
  have he40 := (hg.cnt (k := 4) rfl).2
  have hs16 := hg.cnt (k := 1) rfl
  have kt := ks_treaty t (by omega)
  have kt1 := kt.1
  have kt2 := kt.2.2.2
  refine KC.of (ls := [_, _]) rfl rfl (Nat.le_of_ble_eq_true rfl) ?_
  refine kv_aload_n dX3_follow_0 rfl ?_
  refine kw_gR dX3_follow_1 fX3_18 hu (by first | rfl | assumption) rfl rfl (by first | rfl | assumption) ?_
  refine kw_gR dX3_follow_4 fX3_92 hu (by first | rfl | assumption) rfl rfl (by first | rfl | assumption) ?_
  refine kv_iload_n dX3_follow_7 rfl ?_
  refine kw_al (t := 2) (n := 10) dX3_follow_8 hu rfl rfl (t) rfl (by omega) rfl (by first | rfl | assumption) ?_
  refine kv_aload_n dX3_follow_9 rfl ?_
  refine kw_gR dX3_follow_10 fX3_9 hu (by first | rfl | assumption) rfl rfl (by first | rfl | assumption) ?_
  refine kv_aload_n dX3_follow_13 rfl ?_
  refine kw_gR dX3_follow_14 fX3_15 hu (by first | rfl | assumption) rfl rfl (by first | rfl | assumption) ?_
  refine kw_Vpi [_, _] mX9_comesTo dX3_follow_17 lX3_102 wX9_comesTo kC9 hu rfl (by first | rfl | assumption) rfl rfl rfl (qX9_comesTo hu hr hg t ht ha hb hcc hd) (by decide) (fun v1 e1 => ?_)
  have hu1 := e1.wd hu
  have E1 := e1
  have hr1 := hr.eqX hg E1
  exact kv_iret dX3_follow_20 rfl ⟨rfl, E1⟩

set_option maxRecDepth 20000 in
set_option maxHeartbeats 4000000 in
theorem qX3_agreed {w : KW} {l : Launch} {u : KMem} (hu : kWd u) {g : Nat → Int32} (hr : kRS 1 g u) (hg : kGI g) (x : Nat) (hx : x < kN g 2) : KC w l mX3_agreed 3 0 0 [.ref 385, .ref (1 + (72 + 3 * x))] u (kp kSX u (some (.int (kAgr g x)))) := by
  have hx20 := (hg.cnt (k := 2) rfl).2
  have hc30 := (hg.cnt (k := 0) rfl).2
  have ht10 := (hg.cnt (k := 3) rfl).2
  have he40 := (hg.cnt (k := 4) rfl).2
  have hs16 := hg.cnt (k := 1) rfl
  have kx := ks_crash x (by omega)
  have kx1 := kx.1
  have kx2 := kx.2.1
  have kx3 := kx.2.2.1
  have kx4 := kx.2.2.2.1
  have kx5 := kx.2.2.2.2.1
  have kx6 := kx.2.2.2.2.2
  have hbc : kBC (kLeft g x) = kBits (kLeft g x) 24 := by
    obtain ⟨m, hm, e⟩ := hg.left x
    have h2 : 2 ^ kN g 1 ≤ 2 ^ 16 := Nat.pow_le_pow_right (by decide) hs16.2
    rw [e]
    exact kBC_e (by omega)
  refine KC.of (ls := [_, _, _, _, _, _, _]) rfl rfl (Nat.le_of_ble_eq_true rfl) ?_
  refine kv_aload_n dX3_agreed_0 rfl ?_
  refine kv_aload_n dX3_agreed_1 rfl ?_
  refine kw_Vi [_] mX3_left dX3_agreed_2 lX3_58 wX3_left kC3 hu rfl (by first | rfl | assumption) rfl rfl rfl (qX3_left hu hr hg x hx) (by decide) ?_
  refine kv_istore_n (ls2 := [_, _, _, _, _, _, _]) dX3_agreed_5 rfl rfl rfl rfl ?_
  refine kv_aload_n dX3_agreed_6 rfl ?_
  refine kv_iload_n dX3_agreed_7 rfl ?_
  refine kw_Vi [_] mX3_least dX3_agreed_8 lX3_61 wX3_least kC3 hu rfl (by first | rfl | assumption) rfl rfl rfl (qX3_least hu hr hg _ (hg.left x)) (by decide) ?_
  refine kv_istore_n (ls2 := [_, _, _, _, _, _, _]) dX3_agreed_11 rfl rfl rfl rfl ?_
  refine kv_aload_n dX3_agreed_12 rfl ?_
  refine kv_iload_n dX3_agreed_13 rfl ?_
  refine kw_Vi [_] mX3_most dX3_agreed_14 lX3_65 wX3_most kC3 hu rfl (by first | rfl | assumption) rfl rfl rfl (qX3_most hu hr hg _ (hg.left x)) (by decide) ?_
  refine kv_istore (ls2 := [_, _, _, _, _, _, _]) dX3_agreed_17 rfl rfl rfl rfl ?_
  refine kv_aload_n dX3_agreed_19 rfl ?_
  refine kv_iconst dX3_agreed_20 0 ki_0 ?_
  refine kv_aload_n dX3_agreed_21 rfl ?_
  refine kw_gI dX3_agreed_22 fX3_68 hu (by first | rfl | assumption) rfl rfl ?_
  rw [hr.day hx]
  refine kw_Vi [_, _] mX3_inForce dX3_agreed_25 lX3_71 wX3_inForce kC3 hu rfl (by first | rfl | assumption) rfl rfl rfl (qX3_inForce hu hr hg _ _) (by decide) ?_
  refine kv_istore (ls2 := [_, _, _, _, _, _, _]) dX3_agreed_28 rfl rfl rfl rfl ?_
  refine kv_iload_n dX3_agreed_30 rfl ?_
  refine kv_iload dX3_agreed_31 rfl ?_
  refine kv_iadd dX3_agreed_33 ?_
  refine kv_iconst dX3_agreed_34 2 ki_2 ?_
  refine kv_idiv dX3_agreed_35 (by decide) ?_
  refine kv_istore (ls2 := [_, _, _, _, _, _, _]) dX3_agreed_36 rfl rfl rfl rfl ?_
  refine kv_iload dX3_agreed_38 rfl ?_
  refine kv_if_lt dX3_agreed_40 66 (by decide) (fun h1 => ?_) (fun h1 => ?_)
  · have hc := kLn h1
    refine kv_iconst dX3_agreed_66 0 ki_0 ?_
    refine kv_bipush dX3_agreed_67 100 kb_100 ?_
    refine kv_iload dX3_agreed_69 rfl ?_
    refine kw_mmin dX3_agreed_71 lX3_49 rfl (by omega) ?_
    refine kw_mmax dX3_agreed_74 lX3_55 rfl (by omega) ?_
    exact kv_iret dX3_agreed_77 rfl ⟨by unfold kAgr; first | (rw [if_pos hc]; rfl) | (rw [if_neg hc]; rfl), kEq.rf⟩
  · have hT := kInF_ge (by omega) (kNl h1)
    have hc := kNl h1
    refine kv_aload_n dX3_agreed_43 rfl ?_
    refine kv_iload_n dX3_agreed_44 rfl ?_
    refine kv_iload dX3_agreed_45 rfl ?_
    refine kv_iload_n dX3_agreed_47 rfl ?_
    refine kw_Si [_] mJ6_bitCount_0f7a4 dX3_agreed_48 lX3_74 wJ6_bitCount_0f7a4 rfl rfl rfl (qJ6_bitCount_0f7a4 hu _) (by decide) ?_
    rw [hbc]
    refine kv_aload_n dX3_agreed_51 rfl ?_
    refine kw_gI dX3_agreed_52 fX3_79 hu (by first | rfl | assumption) rfl rfl ?_
    rw [hr.speed hx]
    refine kw_VQ [_, _, _, _] mX3_name dX3_agreed_55 lX3_82 wX3_name kC3 hu rfl (by first | rfl | assumption) rfl rfl rfl (qX3_name hu _ _ _ _) (by decide) (fun _ v1 q1 => ?_)
    obtain ⟨rfl, e1, na, nb, nc, nd⟩ := q1
    have hu1 := e1.wd hu
    have E1 := e1
    have hr1 := hr.eqX hg E1
    refine kv_aload_n dX3_agreed_58 rfl ?_
    refine kv_iload dX3_agreed_59 rfl ?_
    rw [hT.2]
    refine kw_Vpi [_] mX3_follow dX3_agreed_61 lX3_86 wX3_follow kC3 hu1 rfl (by first | rfl | assumption) rfl rfl rfl (qX3_follow hu1 hr1 hg _ hT.1 na nb nc nd) (by decide) (fun v2 e2 => ?_)
    have hu2 := e2.wd hu1
    have E2 := E1.tr e2
    have hr2 := hr.eqX hg E2
    refine kv_istore (ls2 := [_, _, _, _, _, _, _]) dX3_agreed_64 rfl rfl rfl rfl ?_
    refine kv_iconst dX3_agreed_66 0 ki_0 ?_
    refine kv_bipush dX3_agreed_67 100 kb_100 ?_
    refine kv_iload dX3_agreed_69 rfl ?_
    refine kw_mmin dX3_agreed_71 lX3_49 rfl (by omega) ?_
    refine kw_mmax dX3_agreed_74 lX3_55 rfl (by omega) ?_
    exact kv_iret dX3_agreed_77 rfl ⟨by unfold kAgr; first | (rw [if_pos hc]; rfl) | (rw [if_neg hc]; rfl), E2⟩

set_option maxRecDepth 20000 in
set_option maxHeartbeats 4000000 in
theorem qX3_claim {w : KW} {l : Launch} {u : KMem} (hu : kWd u) {g : Nat → Int32} (hr : kRS 1 g u) (hg : kGI g) (x : Nat) (hx : x < kN g 2) (s : Nat) (hs : s < 2) : KC w l mX3_claim 4 0 0 [.ref 385, .ref (1 + (72 + 3 * x)), .int (nI s)] u (kp kSX u (some (.int (kClm g x s)))) := by
  have hx20 := (hg.cnt (k := 2) rfl).2
  have hc30 := (hg.cnt (k := 0) rfl).2
  have ht10 := (hg.cnt (k := 3) rfl).2
  have he40 := (hg.cnt (k := 4) rfl).2
  have hs16 := hg.cnt (k := 1) rfl
  have kx := ks_crash x (by omega)
  have kx1 := kx.1
  have kx2 := kx.2.1
  have kx3 := kx.2.2.1
  have kx4 := kx.2.2.2.1
  have kx5 := kx.2.2.2.2.1
  have kx6 := kx.2.2.2.2.2
  refine KC.of (ls := [_, _, _, _, _]) rfl rfl (Nat.le_of_ble_eq_true rfl) ?_
  refine kv_aload_n dX3_claim_0 rfl ?_
  refine kv_aload_n dX3_claim_1 rfl ?_
  refine kw_Vpi [_] mX3_agreed dX3_claim_2 lX3_149 wX3_agreed kC3 hu rfl (by first | rfl | assumption) rfl rfl rfl (qX3_agreed hu hr hg x hx) (by decide) (fun v1 e1 => ?_)
  have hu1 := e1.wd hu
  have E1 := e1
  have hr1 := hr.eqX hg E1
  refine kv_istore_n (ls2 := [_, _, _, _, _]) dX3_claim_5 rfl rfl rfl rfl ?_
  refine kv_iload_n dX3_claim_6 rfl ?_
  refine kv_if_ne dX3_claim_7 17 (by decide) (fun h1 => ?_) (fun h1 => ?_)
  · have hs1 : ¬ s = 0 := fun q => h1 (by rw [q]; rfl)
    refine kv_iload_n dX3_claim_17 rfl ?_
    refine kv_istore (ls2 := [_, _, _, _, _]) dX3_claim_18 rfl rfl rfl rfl ?_
    refine kv_aload_n dX3_claim_20 rfl ?_
    refine kv_aload_n dX3_claim_21 rfl ?_
    refine kv_iload_n dX3_claim_22 rfl ?_
    refine kw_VQ [_, _] mX3_appraise dX3_claim_23 lX3_152 wX3_appraise kC3 hu1 rfl (by first | rfl | assumption) rfl rfl rfl (qX3_appraise hu1 hr1 hg x hx s hs) (by decide) (fun _ v2 q2 => ?_)
    obtain ⟨rfl, e5, ap⟩ := q2
    have e2 := kS5_X e5
    have hu2 := e2.wd hu1
    have E2 := E1.tr e2
    have hr2 := hr.eqX hg E2
    refine kv_aload_n dX3_claim_26 rfl ?_
    refine kw_gI dX3_claim_27 fX3_140 hu2 (by first | rfl | assumption) rfl rfl ?_
    rw [ap.2.2.1]
    refine kv_aload_n dX3_claim_30 rfl ?_
    refine kw_gI dX3_claim_31 fX3_146 hu2 (by first | rfl | assumption) rfl rfl ?_
    rw [ap.2.2.2.1]
    refine kv_aload_n dX3_claim_34 rfl ?_
    refine kw_gR dX3_claim_35 fX3_18 hu2 (by first | rfl | assumption) rfl rfl (by first | rfl | assumption) ?_
    refine kw_gR dX3_claim_38 fX3_114 hu2 (by first | rfl | assumption) rfl rfl (by first | rfl | assumption) ?_
    refine kv_iconst dX3_claim_41 4 ki_4 ?_
    refine kw_il dX3_claim_42 hu2 (by first | rfl | assumption) (_) (show (4 : Int32) = nI 4 from rfl) (by omega) rfl ?_
    rw [hr2.rate 4 (by decide)]
    refine kv_imul dX3_claim_43 ?_
    refine kv_iadd dX3_claim_44 ?_
    refine kv_iload dX3_claim_45 rfl ?_
    refine kv_imul dX3_claim_47 ?_
    refine kv_bipush dX3_claim_48 100 kb_100 ?_
    refine kv_idiv dX3_claim_50 (by decide) ?_
    exact kv_iret dX3_claim_51 rfl ⟨by unfold kClm; first | rw [if_pos ‹s = 0›] | rw [if_neg ‹¬ s = 0›], E2⟩
  · have hs0 : s = 0 := (kn_eq (by omega) (by omega)).mp h1
    refine kv_bipush dX3_claim_10 100 kb_100 ?_
    refine kv_iload_n dX3_claim_12 rfl ?_
    refine kv_isub dX3_claim_13 ?_
    refine kv_goto dX3_claim_14 18 (by decide) ?_
    refine kv_istore (ls2 := [_, _, _, _, _]) dX3_claim_18 rfl rfl rfl rfl ?_
    refine kv_aload_n dX3_claim_20 rfl ?_
    refine kv_aload_n dX3_claim_21 rfl ?_
    refine kv_iload_n dX3_claim_22 rfl ?_
    refine kw_VQ [_, _] mX3_appraise dX3_claim_23 lX3_152 wX3_appraise kC3 hu1 rfl (by first | rfl | assumption) rfl rfl rfl (qX3_appraise hu1 hr1 hg x hx s hs) (by decide) (fun _ v2 q2 => ?_)
    obtain ⟨rfl, e5, ap⟩ := q2
    have e2 := kS5_X e5
    have hu2 := e2.wd hu1
    have E2 := E1.tr e2
    have hr2 := hr.eqX hg E2
    refine kv_aload_n dX3_claim_26 rfl ?_
    refine kw_gI dX3_claim_27 fX3_140 hu2 (by first | rfl | assumption) rfl rfl ?_
    rw [ap.2.2.1]
    refine kv_aload_n dX3_claim_30 rfl ?_
    refine kw_gI dX3_claim_31 fX3_146 hu2 (by first | rfl | assumption) rfl rfl ?_
    rw [ap.2.2.2.1]
    refine kv_aload_n dX3_claim_34 rfl ?_
    refine kw_gR dX3_claim_35 fX3_18 hu2 (by first | rfl | assumption) rfl rfl (by first | rfl | assumption) ?_
    refine kw_gR dX3_claim_38 fX3_114 hu2 (by first | rfl | assumption) rfl rfl (by first | rfl | assumption) ?_
    refine kv_iconst dX3_claim_41 4 ki_4 ?_
    refine kw_il dX3_claim_42 hu2 (by first | rfl | assumption) (_) (show (4 : Int32) = nI 4 from rfl) (by omega) rfl ?_
    rw [hr2.rate 4 (by decide)]
    refine kv_imul dX3_claim_43 ?_
    refine kv_iadd dX3_claim_44 ?_
    refine kv_iload dX3_claim_45 rfl ?_
    refine kv_imul dX3_claim_47 ?_
    refine kv_bipush dX3_claim_48 100 kb_100 ?_
    refine kv_idiv dX3_claim_50 (by decide) ?_
    exact kv_iret dX3_claim_51 rfl ⟨by unfold kClm; first | rw [if_pos ‹s = 0›] | rw [if_neg ‹¬ s = 0›], E2⟩

set_option maxRecDepth 20000 in
set_option maxHeartbeats 4000000 in
theorem qX3_goesBack {w : KW} {l : Launch} {u : KMem} (hu : kWd u) {g : Nat → Int32} (hr : kRS 1 g u) (hg : kGI g) (x : Nat) (hx : x < kN g 2) (s : Nat) (hs : s < 2) (coin : Int32) : KC w l mX3_goesBack 4 0 0 [.ref 385, .ref (1 + (72 + 3 * x)), .int (nI s), .int coin] u (kp kSX u (some (.int (kBk g x s coin (kLoss g x s))))) := by
  have hx20 := (hg.cnt (k := 2) rfl).2
  have hc30 := (hg.cnt (k := 0) rfl).2
  have ht10 := (hg.cnt (k := 3) rfl).2
  have he40 := (hg.cnt (k := 4) rfl).2
  have hs16 := hg.cnt (k := 1) rfl
  have kx := ks_crash x (by omega)
  have kx1 := kx.1
  have kx2 := kx.2.1
  have kx3 := kx.2.2.1
  have kx4 := kx.2.2.2.1
  have kx5 := kx.2.2.2.2.1
  have kx6 := kx.2.2.2.2.2
  have hco := hg.carOf hx hs
  have kc := ks_car (kCarOf g x s) (by omega)
  have kc1 := kc.1
  have kc2 := kc.2.2.2
  refine KC.of (ls := [_, _, _, _, _, _, _]) rfl rfl (Nat.le_of_ble_eq_true rfl) ?_
  refine kv_aload_n dX3_goesBack_0 rfl ?_
  refine kw_gR dX3_goesBack_1 fX3_18 hu (by first | rfl | assumption) rfl rfl (by first | rfl | assumption) ?_
  refine kw_gR dX3_goesBack_4 fX3_123 hu (by first | rfl | assumption) rfl rfl (by first | rfl | assumption) ?_
  refine kv_aload_n dX3_goesBack_7 rfl ?_
  refine kw_gR dX3_goesBack_8 fX3_127 hu (by first | rfl | assumption) rfl rfl (by first | rfl | assumption) ?_
  refine kv_iload_n dX3_goesBack_11 rfl ?_
  refine kw_il dX3_goesBack_12 hu (by first | rfl | assumption) (s) rfl (by omega) rfl ?_
  rw [hr.cc hx s hs, hco.1]
  refine kw_al (t := 0) (n := 30) dX3_goesBack_13 hu rfl rfl (kCarOf g x s) rfl (by omega) rfl (by first | rfl | assumption) ?_
  refine kw_gI dX3_goesBack_14 fX3_156 hu (by first | rfl | assumption) rfl rfl ?_
  rw [hr.car hco.2 3 (by decide)]
  refine kv_istore (ls2 := [_, _, _, _, _, _, _]) dX3_goesBack_17 rfl rfl rfl rfl ?_
  refine kv_aload_n dX3_goesBack_19 rfl ?_
  refine kv_iconst dX3_goesBack_20 1 ki_1 ?_
  refine kv_aload_n dX3_goesBack_21 rfl ?_
  refine kw_gI dX3_goesBack_22 fX3_68 hu (by first | rfl | assumption) rfl rfl ?_
  rw [hr.day hx]
  refine kw_Vi [_, _] mX3_inForce dX3_goesBack_25 lX3_71 wX3_inForce kC3 hu rfl (by first | rfl | assumption) rfl rfl rfl (qX3_inForce hu hr hg _ _) (by decide) ?_
  refine kv_istore (ls2 := [_, _, _, _, _, _, _]) dX3_goesBack_28 rfl rfl rfl rfl ?_
  refine kv_iload_n dX3_goesBack_30 rfl ?_
  refine kv_iload dX3_goesBack_31 rfl ?_
  refine kw_mmin dX3_goesBack_33 lX3_49 rfl (by omega) ?_
  refine kv_istore (ls2 := [_, _, _, _, _, _, _]) dX3_goesBack_36 rfl rfl rfl rfl ?_
  refine kv_iload dX3_goesBack_38 rfl ?_
  refine kv_if_lt dX3_goesBack_40 69 (by decide) (fun h1 => ?_) (fun h1 => ?_)
  · have hc := kLn h1
    refine kv_iconst dX3_goesBack_69 0 ki_0 ?_
    refine kv_iload_n dX3_goesBack_70 rfl ?_
    refine kv_iload dX3_goesBack_71 rfl ?_
    refine kw_mmin dX3_goesBack_73 lX3_49 rfl (by omega) ?_
    refine kw_mmax dX3_goesBack_76 lX3_55 rfl (by omega) ?_
    exact kv_iret dX3_goesBack_79 rfl ⟨by unfold kBk; first | (rw [if_pos hc]; rfl) | (rw [if_neg hc]; rfl), kEq.rf⟩
  · have hT := kInF_ge (by omega) (kNl h1)
    have hc := kNl h1
    refine kv_aload_n dX3_goesBack_43 rfl ?_
    refine kv_aload_n dX3_goesBack_44 rfl ?_
    refine kv_iload_n dX3_goesBack_45 rfl ?_
    refine kw_VQ [_, _] mX3_appraise dX3_goesBack_46 lX3_152 wX3_appraise kC3 hu rfl (by first | rfl | assumption) rfl rfl rfl (qX3_appraise hu hr hg x hx s hs) (by decide) (fun _ v1 q1 => ?_)
    obtain ⟨rfl, e5, ap⟩ := q1
    have e1 := kS5_X e5
    have hu1 := e1.wd hu
    have E1 := e1
    have hr1 := hr.eqX hg E1
    refine kv_aload_n dX3_goesBack_49 rfl ?_
    refine kv_iload_n dX3_goesBack_50 rfl ?_
    refine kv_iload dX3_goesBack_51 rfl ?_
    refine kv_aload_n dX3_goesBack_53 rfl ?_
    refine kw_gI dX3_goesBack_54 fX3_140 hu1 (by first | rfl | assumption) rfl rfl ?_
    rw [ap.2.2.1]
    refine kv_iconst dX3_goesBack_57 0 ki_0 ?_
    refine kw_VQ [_, _, _, _] mX3_name dX3_goesBack_58 lX3_82 wX3_name kC3 hu1 rfl (by first | rfl | assumption) rfl rfl rfl (qX3_name hu1 _ _ _ _) (by decide) (fun _ v2 q2 => ?_)
    obtain ⟨rfl, e2, na, nb, nc, nd⟩ := q2
    have hu2 := e2.wd hu1
    have E2 := E1.tr e2
    have hr2 := hr.eqX hg E2
    refine kv_aload_n dX3_goesBack_61 rfl ?_
    refine kv_iload dX3_goesBack_62 rfl ?_
    rw [hT.2]
    refine kw_Vpi [_] mX3_follow dX3_goesBack_64 lX3_86 wX3_follow kC3 hu2 rfl (by first | rfl | assumption) rfl rfl rfl (qX3_follow hu2 hr2 hg _ hT.1 na nb nc nd) (by decide) (fun v3 e3 => ?_)
    have hu3 := e3.wd hu2
    have E3 := E2.tr e3
    have hr3 := hr.eqX hg E3
    refine kv_istore (ls2 := [_, _, _, _, _, _, _]) dX3_goesBack_67 rfl rfl rfl rfl ?_
    refine kv_iconst dX3_goesBack_69 0 ki_0 ?_
    refine kv_iload_n dX3_goesBack_70 rfl ?_
    refine kv_iload dX3_goesBack_71 rfl ?_
    refine kw_mmin dX3_goesBack_73 lX3_49 rfl (by omega) ?_
    refine kw_mmax dX3_goesBack_76 lX3_55 rfl (by omega) ?_
    exact kv_iret dX3_goesBack_79 rfl ⟨by unfold kBk; first | (rw [if_pos hc]; rfl) | (rw [if_neg hc]; rfl), E3⟩

