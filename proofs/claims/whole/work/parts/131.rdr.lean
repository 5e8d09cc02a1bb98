/-! THE READER: its leaves -/
section KGRh
variable {w : KW} {l : Launch} {mm : KM} {dd nc ns pc : Nat} {ls : List (Option Value)} {rest : List Value} {u : KMem} {Q : Option Value → KMem → Prop}
theorem kw_gRh {idx ci k a b n : Nat} {ty : FieldType} {fin : Bool} (d : decode mm.2.1 pc = .ok (.getfield idx, 3)) (f : kv_FL mm.1.cls idx ci k ty fin) (hu : kWd u) (hs : kv_sh a = (ci, n)) (hk : Nat.blt k n = true) (hi : kv_ir ci k = true) (hb : u.2.2.2 a k = some b)
    (kk : KV w l mm dd nc ns (pc + 3) ls (.ref b :: rest) u Q) : KV w l mm dd nc ns pc ls (.ref a :: rest) u Q :=
  kv_getR n d f (by rw [hu.1]; exact kv_lt hs (Nat.le_of_ble_eq_true hk)) hs hk hi hb kk
end KGRh
def kpA (t a k : Nat) : Prop := (a = 388 ∧ 3 ≤ k ∧ k ≤ 6) ∨ (a = (1 + (132 + 2 * t)) ∧ k = 1) ∨ a = (1 + (132 + 2 * t + 1))
def kpS1 (a k : Nat) : Prop := a = 388 ∧ 3 ≤ k ∧ k ≤ 5
abbrev kpCx (u : KMem) (t : Nat) (B : Nat → Int32) (n use : Nat)  : Prop := kWd u ∧ t < 10 ∧ n ≤ 60 ∧ (∀ i, i < n → kUp (B i) 255) ∧ u.2.2.2 388 0 = some 11 ∧ u.2.2.2 388 2 = some (1 + (132 + 2 * t)) ∧ u.2.1 388 1 = nI n ∧ (∀ i, i < n → u.2.1 11 i = B i) ∧ u.2.1 (1 + (132 + 2 * t)) 2 = nI use ∧ use < 3
theorem kpCx.wd {u : KMem} {t : Nat} {B : Nat → Int32} {n use : Nat}  (h : kpCx u t B n use) : kWd u := h.1
theorem kpCx.ht {u : KMem} {t : Nat} {B : Nat → Int32} {n use : Nat}  (h : kpCx u t B n use) : t < 10 := h.2.1
theorem kpCx.hn {u : KMem} {t : Nat} {B : Nat → Int32} {n use : Nat}  (h : kpCx u t B n use) : n ≤ 60 := h.2.2.1
theorem kpCx.hB {u : KMem} {t : Nat} {B : Nat → Int32} {n use : Nat}  (h : kpCx u t B n use) : ∀ i, i < n → kUp (B i) 255 := h.2.2.2.1
theorem kpCx.f0 {u : KMem} {t : Nat} {B : Nat → Int32} {n use : Nat}  (h : kpCx u t B n use) : u.2.2.2 388 0 = some 11 := h.2.2.2.2.1
theorem kpCx.f2 {u : KMem} {t : Nat} {B : Nat → Int32} {n use : Nat}  (h : kpCx u t B n use) : u.2.2.2 388 2 = some (1 + (132 + 2 * t)) := h.2.2.2.2.2.1
theorem kpCx.fn {u : KMem} {t : Nat} {B : Nat → Int32} {n use : Nat}  (h : kpCx u t B n use) : u.2.1 388 1 = nI n := h.2.2.2.2.2.2.1
theorem kpCx.fB {u : KMem} {t : Nat} {B : Nat → Int32} {n use : Nat}  (h : kpCx u t B n use) : ∀ i, i < n → u.2.1 11 i = B i := h.2.2.2.2.2.2.2.1
theorem kpCx.fu {u : KMem} {t : Nat} {B : Nat → Int32} {n use : Nat}  (h : kpCx u t B n use) : u.2.1 (1 + (132 + 2 * t)) 2 = nI use := h.2.2.2.2.2.2.2.2.1
theorem kpCx.hus {u : KMem} {t : Nat} {B : Nat → Int32} {n use : Nat}  (h : kpCx u t B n use) : use < 3 := h.2.2.2.2.2.2.2.2.2
theorem kpCx.of {u v : KMem} {t : Nat} {B : Nat → Int32} {n use : Nat} (h : kpCx u t B n use) (e : kEq (kpA t) u v) : kpCx v t B n use :=
  ⟨e.wd h.wd, h.ht, h.hn, h.hB, by rw [e.2.1]; exact h.f0, by rw [e.2.1]; exact h.f2, (e.2.2.1 _ _ (by have := h.ht; unfold kpA; omega)).trans h.fn, fun i hi => (e.2.2.1 _ _ (by have := h.ht; unfold kpA; omega)).trans (h.fB i hi), (e.2.2.1 _ _ (by have := h.ht; unfold kpA; omega)).trans h.fu, h.hus⟩
def kpXs (u : KMem) (t : Nat) (B : Nat → Int32) (n : Nat) (s : KPs) (v : KMem) : Prop :=
  kEq (kpA t) u v ∧ v.2.1 388 6 = -1 ∧ v.2.1 388 4 = nI s.1 ∧ v.2.1 388 5 = nI (kpTe B n s.1) ∧ v.2.1 388 3 = kpWo B n s.1 ∧ v.2.1 (1 + (132 + 2 * t)) 1 = nI s.2.length ∧ (∀ i, i < s.2.length → v.2.1 (1 + (132 + 2 * t + 1)) i = kEnc (s.2.getD i 0)) ∧ s.1 ≤ n ∧ s.2.length ≤ s.1
def kpXe (u : KMem) (t f : Nat) (v : KMem) : Prop := kEq (kpA t) u v ∧ v.2.1 388 6 = nI f ∧ f ≤ 60 ∧ ∃ c, c ≤ 60 ∧ v.2.1 (1 + (132 + 2 * t)) 1 = nI c
def kpXr (u : KMem) (t : Nat) (B : Nat → Int32) (n : Nat) : KPt → KMem → Prop
  | .ok s, v => kpXs u t B n s v
  | .error f, v => kpXe u t f v
theorem kpDg_lo {x : Int32} (h : x < 48) : ¬ kpDg x = true := fun q => absurd (of_decide_eq_true q).1 (Int32.not_le.mpr h)
theorem kpDg_hi {x : Int32} (h : 57 < x) : ¬ kpDg x = true := fun q => absurd (of_decide_eq_true q).2 (Int32.not_le.mpr h)
theorem kpDg_in {x : Int32} (h : ¬ x < 48) (h2 : ¬ 57 < x) : kpDg x = true := decide_eq_true ⟨Int32.not_lt.mp h, Int32.not_lt.mp h2⟩
theorem kpLr_lo {x : Int32} (h : x < 97) : ¬ kpLr x = true := fun q => absurd (of_decide_eq_true q).1 (Int32.not_le.mpr h)
theorem kpLr_hi {x : Int32} (h : 122 < x) : ¬ kpLr x = true := fun q => absurd (of_decide_eq_true q).2 (Int32.not_le.mpr h)
theorem kpLr_in {x : Int32} (h : ¬ x < 97) (h2 : ¬ 122 < x) : kpLr x = true := decide_eq_true ⟨Int32.not_lt.mp h, Int32.not_lt.mp h2⟩
theorem kpTe_d {B : Nat → Int32} {n p : Nat} (hp : p < n) (hd : kpDg (B p) = true) : kpTe B n p = kpRun kpDg B (n - p) p ∧ kpWo B n p = -2 := by unfold kpTe kpWo; rw [if_pos hp, if_pos hp, if_pos hd, if_pos hd]; exact ⟨rfl, rfl⟩
theorem kpTe_l {B : Nat → Int32} {n p : Nat} (hp : p < n) (hd : ¬ kpDg (B p) = true) (hl : kpLr (B p) = true) : kpTe B n p = kpRun kpLr B (n - p) p ∧ kpWo B n p = -3 := by unfold kpTe kpWo; rw [if_pos hp, if_pos hp, if_neg hd, if_neg hd, if_pos hl, if_pos hl]; exact ⟨rfl, rfl⟩
theorem kpTe_o {B : Nat → Int32} {n p : Nat} (hp : p < n) (hd : ¬ kpDg (B p) = true) (hl : ¬ kpLr (B p) = true) : kpTe B n p = p + 1 ∧ kpWo B n p = B p := by unfold kpTe kpWo; rw [if_pos hp, if_pos hp, if_neg hd, if_neg hd, if_neg hl, if_neg hl]; exact ⟨rfl, rfl⟩
theorem kpTe_e {B : Nat → Int32} {n p : Nat} (hp : ¬ p < n) : kpTe B n p = p ∧ kpWo B n p = -1 := by unfold kpTe kpWo; rw [if_neg hp, if_neg hp]; exact ⟨rfl, rfl⟩
set_option maxRecDepth 20000 in
set_option maxHeartbeats 4000000 in
theorem qX5_isDigit {w : KW} {l : Launch} {u : KMem} (hu : kWd u) (p0 : Int32) : KC w l mX5_isDigit 0 0 0 [.int p0] u (kq (some (.int (if kpDg p0 = true then 1 else 0))) u) := by
  refine KC.of (ls := [_]) rfl rfl (Nat.le_of_ble_eq_true rfl) ?_
  refine kv_iload_n dX5_isDigit_0 rfl ?_
  refine kv_bipush dX5_isDigit_1 48 kb_48 ?_
  refine kv_icmp_lt dX5_isDigit_3 16 (by decide) (fun h1 => ?_) (fun h1 => ?_)
  · rw [if_neg (kpDg_lo h1)]
    refine kv_iconst dX5_isDigit_16 0 ki_0 ?_
    exact kv_zret dX5_isDigit_17 rfl kv_z0 ⟨rfl, rfl⟩
  · refine kv_iload_n dX5_isDigit_6 rfl ?_
    refine kv_bipush dX5_isDigit_7 57 kb_57 ?_
    refine kv_icmp_gt dX5_isDigit_9 16 (by decide) (fun h2 => ?_) (fun h2 => ?_)
    · rw [if_neg (kpDg_hi h2)]
      refine kv_iconst dX5_isDigit_16 0 ki_0 ?_
      exact kv_zret dX5_isDigit_17 rfl kv_z0 ⟨rfl, rfl⟩
    · rw [if_pos (kpDg_in h1 h2)]
      refine kv_iconst dX5_isDigit_12 1 ki_1 ?_
      refine kv_goto dX5_isDigit_13 17 (by decide) ?_
      exact kv_zret dX5_isDigit_17 rfl kv_z1 ⟨rfl, rfl⟩

set_option maxRecDepth 20000 in
set_option maxHeartbeats 4000000 in
theorem qX5_isLetter {w : KW} {l : Launch} {u : KMem} (hu : kWd u) (p0 : Int32) : KC w l mX5_isLetter 0 0 0 [.int p0] u (kq (some (.int (if kpLr p0 = true then 1 else 0))) u) := by
  refine KC.of (ls := [_]) rfl rfl (Nat.le_of_ble_eq_true rfl) ?_
  refine kv_iload_n dX5_isLetter_0 rfl ?_
  refine kv_bipush dX5_isLetter_1 97 kb_97 ?_
  refine kv_icmp_lt dX5_isLetter_3 16 (by decide) (fun h1 => ?_) (fun h1 => ?_)
  · rw [if_neg (kpLr_lo h1)]
    refine kv_iconst dX5_isLetter_16 0 ki_0 ?_
    exact kv_zret dX5_isLetter_17 rfl kv_z0 ⟨rfl, rfl⟩
  · refine kv_iload_n dX5_isLetter_6 rfl ?_
    refine kv_bipush dX5_isLetter_7 122 kb_122 ?_
    refine kv_icmp_gt dX5_isLetter_9 16 (by decide) (fun h2 => ?_) (fun h2 => ?_)
    · rw [if_neg (kpLr_hi h2)]
      refine kv_iconst dX5_isLetter_16 0 ki_0 ?_
      exact kv_zret dX5_isLetter_17 rfl kv_z0 ⟨rfl, rfl⟩
    · rw [if_pos (kpLr_in h1 h2)]
      refine kv_iconst dX5_isLetter_12 1 ki_1 ?_
      refine kv_goto dX5_isLetter_13 17 (by decide) ?_
      exact kv_zret dX5_isLetter_17 rfl kv_z1 ⟨rfl, rfl⟩

set_option maxRecDepth 20000 in
set_option maxHeartbeats 4000000 in
theorem qX5_step {w : KW} {l : Launch} {u : KMem} {t : Nat} {B : Nat → Int32} {n use : Nat} (cx : kpCx u t B n use) (q : Nat) (hq : q ≤ n) (v5 : u.2.1 388 5 = nI q) : KC w l mX5_step 1 0 0 [.ref 388] u (fun r z => r = none ∧ kEq kpS1 u z ∧ z.2.1 388 4 = nI (kpSk B n q) ∧ z.2.1 388 5 = nI (kpTe B n (kpSk B n q)) ∧ z.2.1 388 3 = kpWo B n (kpSk B n q)) := by
  have hu := cx.wd
  have ht := cx.ht
  have hn := cx.hn
  have r0 := cx.f0
  obtain ⟨e, he⟩ : ∃ e, e = (kpSk B n q) := ⟨_, rfl⟩
  obtain ⟨s1, s2, s3, s4⟩ := kpRun_s kpSp B (n - q) q
  rw [show kpRun kpSp B (n - q) q = e from he.symm] at s1 s2 s3 s4
  refine KC.of (ls := [_]) rfl rfl (Nat.le_of_ble_eq_true rfl) ?_
  refine kv_aload_n dX5_step_0 rfl ?_
  refine kv_aload_n dX5_step_1 rfl ?_
  refine kw_gI dX5_step_2 fX5_29 hu (by first | rfl | assumption) rfl rfl ?_
  rw [v5]
  refine kw_pI dX5_step_5 fX5_48 hu (by first | rfl | assumption) rfl rfl ?_
  refine KV.loc (ls2 := [some (.ref 388)]) ?_ (ksS rfl ksN)
  refine kn_loop (P := fun i => ∀ z : KMem, kEq kpS1 u z → z.2.1 388 4 = nI (q + i) → KV w l mX5_step 1 0 0 8 [some (.ref 388)] [] z (fun r z => r = none ∧ kEq kpS1 u z ∧ z.2.1 388 4 = nI (kpSk B n q) ∧ z.2.1 388 5 = nI (kpTe B n (kpSk B n q)) ∧ z.2.1 388 3 = kpWo B n (kpSk B n q))) (e - q) ?_ (fun i hi ih => ?_) _ (kEq.rf.si ⟨rfl, by decide, by decide⟩) (kv_si_s _ _ _ _)
  · intro z E z4
    have hz := E.wd hu
    have r0 : z.2.2.2 388 0 = some 11 := by rw [E.2.1]; exact cx.f0
    have zn : z.2.1 388 1 = nI n := (E.2.2.1 _ _ (by unfold kpS1; omega)).trans cx.fn
    have zB : ∀ i, i < n → z.2.1 11 i = B i := fun i hi => (E.2.2.1 _ _ (by unfold kpS1; omega)).trans (cx.fB i hi)
    rw [show q + (e - q) = e by omega] at z4
    refine kv_aload_n dX5_step_8 rfl ?_
    refine kw_gI dX5_step_9 fX5_48 hz (by first | rfl | assumption) rfl rfl ?_
    rw [z4]
    refine kv_aload_n dX5_step_12 rfl ?_
    refine kw_gI dX5_step_13 fX5_21 hz (by first | rfl | assumption) rfl rfl ?_
    rw [zn]
    refine kv_icmp_ge dX5_step_16 46 (by decide) (fun h1 => ?_) (fun h1 => ?_)
    · have hen : ¬ e < n := Nat.not_lt.mpr ((nI_leI (by omega) (by omega)).mp h1)
      refine kv_aload_n dX5_step_46 rfl ?_
      refine kv_aload_n dX5_step_47 rfl ?_
      refine kw_gI dX5_step_48 fX5_48 hz (by first | rfl | assumption) rfl rfl ?_
      rw [z4]
      refine kw_pI dX5_step_51 fX5_29 hz (by first | rfl | assumption) rfl rfl ?_
      refine kv_aload_n dX5_step_54 rfl ?_
      refine kw_gI dX5_step_55 fX5_48 hz (by first | rfl | assumption) rfl rfl ?_
      rw [kv_si_n (by omega), z4]
      refine kv_aload_n dX5_step_58 rfl ?_
      refine kw_gI dX5_step_59 fX5_21 hz (by first | rfl | assumption) rfl rfl ?_
      rw [kv_si_n (by omega), zn]
      refine kv_icmp_lt dX5_step_62 73 (by decide) (fun h2 => ?_) (fun h2 => ?_)
      · have hq62 := h2
        have hen : e < n := (nI_ltI (by omega) (by omega)).mp h2
        refine kv_aload_n dX5_step_73 rfl ?_
        refine kw_gRh dX5_step_74 fX5_9 hz (by first | rfl | assumption) rfl rfl (by exact r0) ?_
        refine kv_aload_n dX5_step_77 rfl ?_
        refine kw_gI dX5_step_78 fX5_48 hz (by first | rfl | assumption) rfl rfl ?_
        rw [kv_si_n (by omega), z4]
        refine kw_il dX5_step_81 hz (by first | rfl | assumption) (e) rfl (by omega) rfl ?_
        refine kw_Si [_] mX5_isDigit dX5_step_82 lX5_51 wX5_isDigit rfl rfl rfl (qX5_isDigit (by exact hz) _) (by decide) ?_
        refine kw_beq dX5_step_85 133 (by decide) (fun h3 => ?_) (fun h3 => ?_)
        · rw [kv_si_n (by omega), zB e hen] at h3
          have hd : ¬ kpDg (B e) = true := h3
          refine kv_aload_n dX5_step_133 rfl ?_
          refine kw_gRh dX5_step_134 fX5_9 hz (by first | rfl | assumption) rfl rfl (by exact r0) ?_
          refine kv_aload_n dX5_step_137 rfl ?_
          refine kw_gI dX5_step_138 fX5_48 hz (by first | rfl | assumption) rfl rfl ?_
          rw [kv_si_n (by omega), z4]
          refine kw_il dX5_step_141 hz (by first | rfl | assumption) (e) rfl (by omega) rfl ?_
          refine kw_Si [_] mX5_isLetter dX5_step_142 lX5_55 wX5_isLetter rfl rfl rfl (qX5_isLetter (by exact hz) _) (by decide) ?_
          refine kw_beq dX5_step_145 193 (by decide) (fun h4 => ?_) (fun h4 => ?_)
          · rw [kv_si_n (by omega), zB e hen] at h4
            have hl : ¬ kpLr (B e) = true := h4
            refine kv_aload_n dX5_step_193 rfl ?_
            refine kv_aload_n dX5_step_194 rfl ?_
            refine kw_gRh dX5_step_195 fX5_9 hz (by first | rfl | assumption) rfl rfl (by exact r0) ?_
            refine kv_aload_n dX5_step_198 rfl ?_
            refine kw_gI dX5_step_199 fX5_48 hz (by first | rfl | assumption) rfl rfl ?_
            rw [kv_si_n (by omega), z4]
            refine kw_il dX5_step_202 hz (by first | rfl | assumption) (e) rfl (by omega) rfl ?_
            rw [kv_si_n (by omega), zB e hen]
            refine kw_pI dX5_step_203 fX5_42 hz (by first | rfl | assumption) rfl rfl ?_
            refine kv_aload_n dX5_step_206 rfl ?_
            refine kv_aload_n dX5_step_207 rfl ?_
            refine kw_gI dX5_step_208 fX5_48 hz (by first | rfl | assumption) rfl rfl ?_
            rw [kv_si_n (by omega), kv_si_n (by omega), z4]
            refine kv_iconst dX5_step_211 1 ki_1 ?_
            refine kv_iadd dX5_step_212 ?_
            refine kw_pI dX5_step_213 fX5_29 hz (by first | rfl | assumption) rfl rfl ?_
            exact kv_vret dX5_step_216 rfl (by
                first
                | exact ⟨rfl, Ed, by rw [← he]; exact z4d, by rw [← he, ← hte]; exact z5d, by rw [← he, (kpTe_d hen hd).2]; exact z3d⟩
                | exact ⟨rfl, El, by rw [← he]; exact z4l, by rw [← he, ← hte]; exact z5l, by rw [← he, (kpTe_l hen hd hl).2]; exact z3l⟩
                | exact ⟨rfl, (E.si ⟨rfl, by decide, by decide⟩).si ⟨rfl, by decide, by decide⟩, by rw [kv_si_n (by omega), kv_si_n (by omega), ← he]; exact z4, by rw [kv_si_n (by omega), kv_si_s, ← he, (kpTe_e hen).1], by rw [kv_si_s, ← he, (kpTe_e hen).2]⟩
                | exact ⟨rfl, ((E.si ⟨rfl, by decide, by decide⟩).si ⟨rfl, by decide, by decide⟩).si ⟨rfl, by decide, by decide⟩, by rw [kv_si_n (by omega), kv_si_n (by omega), kv_si_n (by omega), ← he]; exact z4, by rw [kv_si_s, ← he, (kpTe_o hen hd hl).1]; exact kn_add rfl (show (1 : Int32) = nI 1 from rfl), by rw [kv_si_n (by omega), kv_si_s, ← he, (kpTe_o hen hd hl).2]⟩)
          · rw [kv_si_n (by omega), zB e hen] at h4
            have hl : kpLr (B e) = true := h4
            refine kv_aload_n dX5_step_148 rfl ?_
            refine kv_bipush dX5_step_149 (-3) kb_m3 ?_
            refine kw_pI dX5_step_151 fX5_42 hz (by first | rfl | assumption) rfl rfl ?_
            obtain ⟨te, hte⟩ : ∃ te, te = kpTe B n e := ⟨_, rfl⟩
            have hlt := kpTe_lt (B := B) hen
            rw [← hte] at hlt
            have ter : kpRun kpLr B (n - e) e = te := (kpTe_l hen hd hl).1.symm.trans hte.symm
            obtain ⟨t1, t2, t3, t4⟩ := kpRun_s kpLr B (n - e) e
            rw [ter] at t1 t2 t3 t4
            refine KV.loc (ls2 := [some (.ref 388)]) ?_ (ksS rfl ksN)
            refine kn_loop (P := fun i => ∀ z : KMem, kEq kpS1 u z → z.2.1 388 4 = nI e → z.2.1 388 3 = -3 → z.2.1 388 5 = nI (e + i) → KV w l mX5_step 1 0 0 154 [some (.ref 388)] [] z (fun r z => r = none ∧ kEq kpS1 u z ∧ z.2.1 388 4 = nI (kpSk B n q) ∧ z.2.1 388 5 = nI (kpTe B n (kpSk B n q)) ∧ z.2.1 388 3 = kpWo B n (kpSk B n q))) (te - e) ?_ (fun i hi ih => ?_) _ ((E.si ⟨rfl, by decide, by decide⟩).si ⟨rfl, by decide, by decide⟩) (by rw [kv_si_n (by omega), kv_si_n (by omega)]; exact z4) (kv_si_s _ _ _ _) (by rw [kv_si_n (by omega), kv_si_s]; rfl)
            · intro zl El z4l z3l z5l
              have hzl := El.wd hu
              have r0 : zl.2.2.2 388 0 = some 11 := by rw [El.2.1]; exact cx.f0
              have znl : zl.2.1 388 1 = nI n := (El.2.2.1 _ _ (by unfold kpS1; omega)).trans cx.fn
              have zBl : ∀ i, i < n → zl.2.1 11 i = B i := fun i hi => (El.2.2.1 _ _ (by unfold kpS1; omega)).trans (cx.fB i hi)
              rw [show e + (te - e) = te by omega] at z5l
              refine kv_aload_n dX5_step_154 rfl ?_
              refine kw_gI dX5_step_155 fX5_29 hzl (by first | rfl | assumption) rfl rfl ?_
              rw [z5l]
              refine kv_aload_n dX5_step_158 rfl ?_
              refine kw_gI dX5_step_159 fX5_21 hzl (by first | rfl | assumption) rfl rfl ?_
              rw [znl]
              refine kv_icmp_ge dX5_step_162 216 (by decide) (fun h5 => ?_) (fun h5 => ?_)
              · exact kv_vret dX5_step_216 rfl (by
                    first
                    | exact ⟨rfl, Ed, by rw [← he]; exact z4d, by rw [← he, ← hte]; exact z5d, by rw [← he, (kpTe_d hen hd).2]; exact z3d⟩
                    | exact ⟨rfl, El, by rw [← he]; exact z4l, by rw [← he, ← hte]; exact z5l, by rw [← he, (kpTe_l hen hd hl).2]; exact z3l⟩
                    | exact ⟨rfl, (E.si ⟨rfl, by decide, by decide⟩).si ⟨rfl, by decide, by decide⟩, by rw [kv_si_n (by omega), kv_si_n (by omega), ← he]; exact z4, by rw [kv_si_n (by omega), kv_si_s, ← he, (kpTe_e hen).1], by rw [kv_si_s, ← he, (kpTe_e hen).2]⟩
                    | exact ⟨rfl, ((E.si ⟨rfl, by decide, by decide⟩).si ⟨rfl, by decide, by decide⟩).si ⟨rfl, by decide, by decide⟩, by rw [kv_si_n (by omega), kv_si_n (by omega), kv_si_n (by omega), ← he]; exact z4, by rw [kv_si_s, ← he, (kpTe_o hen hd hl).1]; exact kn_add rfl (show (1 : Int32) = nI 1 from rfl), by rw [kv_si_n (by omega), kv_si_s, ← he, (kpTe_o hen hd hl).2]⟩)
              · have hen2 : te < n := Nat.lt_of_not_le (fun q => h5 (nI_le q (by omega)))
                refine kv_aload_n dX5_step_165 rfl ?_
                refine kw_gRh dX5_step_166 fX5_9 hzl (by first | rfl | assumption) rfl rfl (by exact r0) ?_
                refine kv_aload_n dX5_step_169 rfl ?_
                refine kw_gI dX5_step_170 fX5_29 hzl (by first | rfl | assumption) rfl rfl ?_
                rw [z5l]
                refine kw_il dX5_step_173 hzl (by first | rfl | assumption) (_) rfl (by omega) rfl ?_
                refine kw_Si [_] mX5_isLetter dX5_step_174 lX5_55 wX5_isLetter rfl rfl rfl (qX5_isLetter (by exact hzl) _) (by decide) ?_
                refine kw_beq dX5_step_177 216 (by decide) (fun h6 => ?_) (fun h6 => ?_)
                · exact kv_vret dX5_step_216 rfl (by
                      first
                      | exact ⟨rfl, Ed, by rw [← he]; exact z4d, by rw [← he, ← hte]; exact z5d, by rw [← he, (kpTe_d hen hd).2]; exact z3d⟩
                      | exact ⟨rfl, El, by rw [← he]; exact z4l, by rw [← he, ← hte]; exact z5l, by rw [← he, (kpTe_l hen hd hl).2]; exact z3l⟩
                      | exact ⟨rfl, (E.si ⟨rfl, by decide, by decide⟩).si ⟨rfl, by decide, by decide⟩, by rw [kv_si_n (by omega), kv_si_n (by omega), ← he]; exact z4, by rw [kv_si_n (by omega), kv_si_s, ← he, (kpTe_e hen).1], by rw [kv_si_s, ← he, (kpTe_e hen).2]⟩
                      | exact ⟨rfl, ((E.si ⟨rfl, by decide, by decide⟩).si ⟨rfl, by decide, by decide⟩).si ⟨rfl, by decide, by decide⟩, by rw [kv_si_n (by omega), kv_si_n (by omega), kv_si_n (by omega), ← he]; exact z4, by rw [kv_si_s, ← he, (kpTe_o hen hd hl).1]; exact kn_add rfl (show (1 : Int32) = nI 1 from rfl), by rw [kv_si_n (by omega), kv_si_s, ← he, (kpTe_o hen hd hl).2]⟩)
                · have := t4 (by omega)
                  rw [zBl te hen2] at h6
                  rw [h6] at this
                  exact absurd this (by decide)
            · have ih2 := ih
              intro zl El z4l z3l z5l
              have hzl := El.wd hu
              have r0 : zl.2.2.2 388 0 = some 11 := by rw [El.2.1]; exact cx.f0
              have znl : zl.2.1 388 1 = nI n := (El.2.2.1 _ _ (by unfold kpS1; omega)).trans cx.fn
              have zBl : ∀ i, i < n → zl.2.1 11 i = B i := fun i hi => (El.2.2.1 _ _ (by unfold kpS1; omega)).trans (cx.fB i hi)
              refine kv_aload_n dX5_step_154 rfl ?_
              refine kw_gI dX5_step_155 fX5_29 hzl (by first | rfl | assumption) rfl rfl ?_
              rw [z5l]
              refine kv_aload_n dX5_step_158 rfl ?_
              refine kw_gI dX5_step_159 fX5_21 hzl (by first | rfl | assumption) rfl rfl ?_
              rw [znl]
              refine kv_icmp_ge dX5_step_162 216 (by decide) (fun h7 => ?_) (fun h7 => ?_)
              · exact absurd h7 (fun z => by have := (nI_leI (by omega) (by omega)).mp z; omega)
              · refine kv_aload_n dX5_step_165 rfl ?_
                refine kw_gRh dX5_step_166 fX5_9 hzl (by first | rfl | assumption) rfl rfl (by exact r0) ?_
                refine kv_aload_n dX5_step_169 rfl ?_
                refine kw_gI dX5_step_170 fX5_29 hzl (by first | rfl | assumption) rfl rfl ?_
                rw [z5l]
                refine kw_il dX5_step_173 hzl (by first | rfl | assumption) (_) rfl (by omega) rfl ?_
                refine kw_Si [_] mX5_isLetter dX5_step_174 lX5_55 wX5_isLetter rfl rfl rfl (qX5_isLetter (by exact hzl) _) (by decide) ?_
                refine kw_beq dX5_step_177 216 (by decide) (fun h8 => ?_) (fun h8 => ?_)
                · exact absurd (by rw [zBl _ (by omega)]; exact t3 (e + i) (by omega) (by omega)) h8
                · refine kv_aload_n dX5_step_180 rfl ?_
                  refine kv_dup dX5_step_181 rfl ?_
                  refine kw_gI dX5_step_182 fX5_29 hzl (by first | rfl | assumption) rfl rfl ?_
                  rw [z5l]
                  refine kv_iconst dX5_step_185 1 ki_1 ?_
                  refine kv_iadd dX5_step_186 ?_
                  refine kw_pI dX5_step_187 fX5_29 hzl (by first | rfl | assumption) rfl rfl ?_
                  refine kv_goto dX5_step_190 154 (by decide) ?_
                  refine KV.loc (ih2 _ (El.si ⟨rfl, by decide, by decide⟩) (by rw [kv_si_n (by omega)]; exact z4l) (by rw [kv_si_n (by omega)]; exact z3l) ?_) (ksS rfl ksN)
                  rw [kv_si_s, ← Nat.add_assoc]
                  exact (kn_add rfl (show (1 : Int32) = nI 1 from rfl))
        · rw [kv_si_n (by omega), zB e hen] at h3
          have hd : kpDg (B e) = true := h3
          refine kv_aload_n dX5_step_88 rfl ?_
          refine kv_bipush dX5_step_89 (-2) kb_m2 ?_
          refine kw_pI dX5_step_91 fX5_42 hz (by first | rfl | assumption) rfl rfl ?_
          obtain ⟨te, hte⟩ : ∃ te, te = kpTe B n e := ⟨_, rfl⟩
          have hlt := kpTe_lt (B := B) hen
          rw [← hte] at hlt
          have ter : kpRun kpDg B (n - e) e = te := (kpTe_d hen hd).1.symm.trans hte.symm
          obtain ⟨t1, t2, t3, t4⟩ := kpRun_s kpDg B (n - e) e
          rw [ter] at t1 t2 t3 t4
          refine KV.loc (ls2 := [some (.ref 388)]) ?_ (ksS rfl ksN)
          refine kn_loop (P := fun i => ∀ z : KMem, kEq kpS1 u z → z.2.1 388 4 = nI e → z.2.1 388 3 = -2 → z.2.1 388 5 = nI (e + i) → KV w l mX5_step 1 0 0 94 [some (.ref 388)] [] z (fun r z => r = none ∧ kEq kpS1 u z ∧ z.2.1 388 4 = nI (kpSk B n q) ∧ z.2.1 388 5 = nI (kpTe B n (kpSk B n q)) ∧ z.2.1 388 3 = kpWo B n (kpSk B n q))) (te - e) ?_ (fun i hi ih => ?_) _ ((E.si ⟨rfl, by decide, by decide⟩).si ⟨rfl, by decide, by decide⟩) (by rw [kv_si_n (by omega), kv_si_n (by omega)]; exact z4) (kv_si_s _ _ _ _) (by rw [kv_si_n (by omega), kv_si_s]; rfl)
          · intro zd Ed z4d z3d z5d
            have hzd := Ed.wd hu
            have r0 : zd.2.2.2 388 0 = some 11 := by rw [Ed.2.1]; exact cx.f0
            have znd : zd.2.1 388 1 = nI n := (Ed.2.2.1 _ _ (by unfold kpS1; omega)).trans cx.fn
            have zBd : ∀ i, i < n → zd.2.1 11 i = B i := fun i hi => (Ed.2.2.1 _ _ (by unfold kpS1; omega)).trans (cx.fB i hi)
            rw [show e + (te - e) = te by omega] at z5d
            refine kv_aload_n dX5_step_94 rfl ?_
            refine kw_gI dX5_step_95 fX5_29 hzd (by first | rfl | assumption) rfl rfl ?_
            rw [z5d]
            refine kv_aload_n dX5_step_98 rfl ?_
            refine kw_gI dX5_step_99 fX5_21 hzd (by first | rfl | assumption) rfl rfl ?_
            rw [znd]
            refine kv_icmp_ge dX5_step_102 216 (by decide) (fun h9 => ?_) (fun h9 => ?_)
            · exact kv_vret dX5_step_216 rfl (by
                  first
                  | exact ⟨rfl, Ed, by rw [← he]; exact z4d, by rw [← he, ← hte]; exact z5d, by rw [← he, (kpTe_d hen hd).2]; exact z3d⟩
                  | exact ⟨rfl, El, by rw [← he]; exact z4l, by rw [← he, ← hte]; exact z5l, by rw [← he, (kpTe_l hen hd hl).2]; exact z3l⟩
                  | exact ⟨rfl, (E.si ⟨rfl, by decide, by decide⟩).si ⟨rfl, by decide, by decide⟩, by rw [kv_si_n (by omega), kv_si_n (by omega), ← he]; exact z4, by rw [kv_si_n (by omega), kv_si_s, ← he, (kpTe_e hen).1], by rw [kv_si_s, ← he, (kpTe_e hen).2]⟩
                  | exact ⟨rfl, ((E.si ⟨rfl, by decide, by decide⟩).si ⟨rfl, by decide, by decide⟩).si ⟨rfl, by decide, by decide⟩, by rw [kv_si_n (by omega), kv_si_n (by omega), kv_si_n (by omega), ← he]; exact z4, by rw [kv_si_s, ← he, (kpTe_o hen hd hl).1]; exact kn_add rfl (show (1 : Int32) = nI 1 from rfl), by rw [kv_si_n (by omega), kv_si_s, ← he, (kpTe_o hen hd hl).2]⟩)
            · have hen2 : te < n := Nat.lt_of_not_le (fun q => h9 (nI_le q (by omega)))
              refine kv_aload_n dX5_step_105 rfl ?_
              refine kw_gRh dX5_step_106 fX5_9 hzd (by first | rfl | assumption) rfl rfl (by exact r0) ?_
              refine kv_aload_n dX5_step_109 rfl ?_
              refine kw_gI dX5_step_110 fX5_29 hzd (by first | rfl | assumption) rfl rfl ?_
              rw [z5d]
              refine kw_il dX5_step_113 hzd (by first | rfl | assumption) (_) rfl (by omega) rfl ?_
              refine kw_Si [_] mX5_isDigit dX5_step_114 lX5_51 wX5_isDigit rfl rfl rfl (qX5_isDigit (by exact hzd) _) (by decide) ?_
              refine kw_beq dX5_step_117 216 (by decide) (fun h10 => ?_) (fun h10 => ?_)
              · exact kv_vret dX5_step_216 rfl (by
                    first
                    | exact ⟨rfl, Ed, by rw [← he]; exact z4d, by rw [← he, ← hte]; exact z5d, by rw [← he, (kpTe_d hen hd).2]; exact z3d⟩
                    | exact ⟨rfl, El, by rw [← he]; exact z4l, by rw [← he, ← hte]; exact z5l, by rw [← he, (kpTe_l hen hd hl).2]; exact z3l⟩
                    | exact ⟨rfl, (E.si ⟨rfl, by decide, by decide⟩).si ⟨rfl, by decide, by decide⟩, by rw [kv_si_n (by omega), kv_si_n (by omega), ← he]; exact z4, by rw [kv_si_n (by omega), kv_si_s, ← he, (kpTe_e hen).1], by rw [kv_si_s, ← he, (kpTe_e hen).2]⟩
                    | exact ⟨rfl, ((E.si ⟨rfl, by decide, by decide⟩).si ⟨rfl, by decide, by decide⟩).si ⟨rfl, by decide, by decide⟩, by rw [kv_si_n (by omega), kv_si_n (by omega), kv_si_n (by omega), ← he]; exact z4, by rw [kv_si_s, ← he, (kpTe_o hen hd hl).1]; exact kn_add rfl (show (1 : Int32) = nI 1 from rfl), by rw [kv_si_n (by omega), kv_si_s, ← he, (kpTe_o hen hd hl).2]⟩)
              · have := t4 (by omega)
                rw [zBd te hen2] at h10
                rw [h10] at this
                exact absurd this (by decide)
          · have ih2 := ih
            intro zd Ed z4d z3d z5d
            have hzd := Ed.wd hu
            have r0 : zd.2.2.2 388 0 = some 11 := by rw [Ed.2.1]; exact cx.f0
            have znd : zd.2.1 388 1 = nI n := (Ed.2.2.1 _ _ (by unfold kpS1; omega)).trans cx.fn
            have zBd : ∀ i, i < n → zd.2.1 11 i = B i := fun i hi => (Ed.2.2.1 _ _ (by unfold kpS1; omega)).trans (cx.fB i hi)
            refine kv_aload_n dX5_step_94 rfl ?_
            refine kw_gI dX5_step_95 fX5_29 hzd (by first | rfl | assumption) rfl rfl ?_
            rw [z5d]
            refine kv_aload_n dX5_step_98 rfl ?_
            refine kw_gI dX5_step_99 fX5_21 hzd (by first | rfl | assumption) rfl rfl ?_
            rw [znd]
            refine kv_icmp_ge dX5_step_102 216 (by decide) (fun h11 => ?_) (fun h11 => ?_)
            · exact absurd h11 (fun z => by have := (nI_leI (by omega) (by omega)).mp z; omega)
            · refine kv_aload_n dX5_step_105 rfl ?_
              refine kw_gRh dX5_step_106 fX5_9 hzd (by first | rfl | assumption) rfl rfl (by exact r0) ?_
              refine kv_aload_n dX5_step_109 rfl ?_
              refine kw_gI dX5_step_110 fX5_29 hzd (by first | rfl | assumption) rfl rfl ?_
              rw [z5d]
              refine kw_il dX5_step_113 hzd (by first | rfl | assumption) (_) rfl (by omega) rfl ?_
              refine kw_Si [_] mX5_isDigit dX5_step_114 lX5_51 wX5_isDigit rfl rfl rfl (qX5_isDigit (by exact hzd) _) (by decide) ?_
              refine kw_beq dX5_step_117 216 (by decide) (fun h12 => ?_) (fun h12 => ?_)
              · exact absurd (by rw [zBd _ (by omega)]; exact t3 (e + i) (by omega) (by omega)) h12
              · refine kv_aload_n dX5_step_120 rfl ?_
                refine kv_dup dX5_step_121 rfl ?_
                refine kw_gI dX5_step_122 fX5_29 hzd (by first | rfl | assumption) rfl rfl ?_
                rw [z5d]
                refine kv_iconst dX5_step_125 1 ki_1 ?_
                refine kv_iadd dX5_step_126 ?_
                refine kw_pI dX5_step_127 fX5_29 hzd (by first | rfl | assumption) rfl rfl ?_
                refine kv_goto dX5_step_130 94 (by decide) ?_
                refine KV.loc (ih2 _ (Ed.si ⟨rfl, by decide, by decide⟩) (by rw [kv_si_n (by omega)]; exact z4d) (by rw [kv_si_n (by omega)]; exact z3d) ?_) (ksS rfl ksN)
                rw [kv_si_s, ← Nat.add_assoc]
                exact (kn_add rfl (show (1 : Int32) = nI 1 from rfl))
      · have hen : ¬ e < n := fun q => h2 (nI_lt q (by omega))
        refine kv_aload_n dX5_step_65 rfl ?_
        refine kv_iconst dX5_step_66 (-1) ki_m1 ?_
        refine kw_pI dX5_step_67 fX5_42 hz (by first | rfl | assumption) rfl rfl ?_
        refine kv_goto dX5_step_70 216 (by decide) ?_
        exact kv_vret dX5_step_216 rfl (by
            first
            | exact ⟨rfl, Ed, by rw [← he]; exact z4d, by rw [← he, ← hte]; exact z5d, by rw [← he, (kpTe_d hen hd).2]; exact z3d⟩
            | exact ⟨rfl, El, by rw [← he]; exact z4l, by rw [← he, ← hte]; exact z5l, by rw [← he, (kpTe_l hen hd hl).2]; exact z3l⟩
            | exact ⟨rfl, (E.si ⟨rfl, by decide, by decide⟩).si ⟨rfl, by decide, by decide⟩, by rw [kv_si_n (by omega), kv_si_n (by omega), ← he]; exact z4, by rw [kv_si_n (by omega), kv_si_s, ← he, (kpTe_e hen).1], by rw [kv_si_s, ← he, (kpTe_e hen).2]⟩
            | exact ⟨rfl, ((E.si ⟨rfl, by decide, by decide⟩).si ⟨rfl, by decide, by decide⟩).si ⟨rfl, by decide, by decide⟩, by rw [kv_si_n (by omega), kv_si_n (by omega), kv_si_n (by omega), ← he]; exact z4, by rw [kv_si_s, ← he, (kpTe_o hen hd hl).1]; exact kn_add rfl (show (1 : Int32) = nI 1 from rfl), by rw [kv_si_n (by omega), kv_si_s, ← he, (kpTe_o hen hd hl).2]⟩)
    · have hen : e < n := Nat.lt_of_not_le (fun q => h1 (nI_le q (by omega)))
      refine kv_aload_n dX5_step_19 rfl ?_
      refine kw_gRh dX5_step_20 fX5_9 hz (by first | rfl | assumption) rfl rfl (by exact r0) ?_
      refine kv_aload_n dX5_step_23 rfl ?_
      refine kw_gI dX5_step_24 fX5_48 hz (by first | rfl | assumption) rfl rfl ?_
      rw [z4]
      refine kw_il dX5_step_27 hz (by first | rfl | assumption) (_) rfl (by omega) rfl ?_
      refine kv_bipush dX5_step_28 32 kb_32 ?_
      refine kv_icmp_ne dX5_step_30 46 (by decide) (fun h13 => ?_) (fun h13 => ?_)
      · refine kv_aload_n dX5_step_46 rfl ?_
        refine kv_aload_n dX5_step_47 rfl ?_
        refine kw_gI dX5_step_48 fX5_48 hz (by first | rfl | assumption) rfl rfl ?_
        rw [z4]
        refine kw_pI dX5_step_51 fX5_29 hz (by first | rfl | assumption) rfl rfl ?_
        refine kv_aload_n dX5_step_54 rfl ?_
        refine kw_gI dX5_step_55 fX5_48 hz (by first | rfl | assumption) rfl rfl ?_
        rw [kv_si_n (by omega), z4]
        refine kv_aload_n dX5_step_58 rfl ?_
        refine kw_gI dX5_step_59 fX5_21 hz (by first | rfl | assumption) rfl rfl ?_
        rw [kv_si_n (by omega), zn]
        refine kv_icmp_lt dX5_step_62 73 (by decide) (fun h14 => ?_) (fun h14 => ?_)
        · have hq62 := h14
          have hen : e < n := (nI_ltI (by omega) (by omega)).mp h14
          refine kv_aload_n dX5_step_73 rfl ?_
          refine kw_gRh dX5_step_74 fX5_9 hz (by first | rfl | assumption) rfl rfl (by exact r0) ?_
          refine kv_aload_n dX5_step_77 rfl ?_
          refine kw_gI dX5_step_78 fX5_48 hz (by first | rfl | assumption) rfl rfl ?_
          rw [kv_si_n (by omega), z4]
          refine kw_il dX5_step_81 hz (by first | rfl | assumption) (e) rfl (by omega) rfl ?_
          refine kw_Si [_] mX5_isDigit dX5_step_82 lX5_51 wX5_isDigit rfl rfl rfl (qX5_isDigit (by exact hz) _) (by decide) ?_
          refine kw_beq dX5_step_85 133 (by decide) (fun h15 => ?_) (fun h15 => ?_)
          · rw [kv_si_n (by omega), zB e hen] at h15
            have hd : ¬ kpDg (B e) = true := h15
            refine kv_aload_n dX5_step_133 rfl ?_
            refine kw_gRh dX5_step_134 fX5_9 hz (by first | rfl | assumption) rfl rfl (by exact r0) ?_
            refine kv_aload_n dX5_step_137 rfl ?_
            refine kw_gI dX5_step_138 fX5_48 hz (by first | rfl | assumption) rfl rfl ?_
            rw [kv_si_n (by omega), z4]
            refine kw_il dX5_step_141 hz (by first | rfl | assumption) (e) rfl (by omega) rfl ?_
            refine kw_Si [_] mX5_isLetter dX5_step_142 lX5_55 wX5_isLetter rfl rfl rfl (qX5_isLetter (by exact hz) _) (by decide) ?_
            refine kw_beq dX5_step_145 193 (by decide) (fun h16 => ?_) (fun h16 => ?_)
            · rw [kv_si_n (by omega), zB e hen] at h16
              have hl : ¬ kpLr (B e) = true := h16
              refine kv_aload_n dX5_step_193 rfl ?_
              refine kv_aload_n dX5_step_194 rfl ?_
              refine kw_gRh dX5_step_195 fX5_9 hz (by first | rfl | assumption) rfl rfl (by exact r0) ?_
              refine kv_aload_n dX5_step_198 rfl ?_
              refine kw_gI dX5_step_199 fX5_48 hz (by first | rfl | assumption) rfl rfl ?_
              rw [kv_si_n (by omega), z4]
              refine kw_il dX5_step_202 hz (by first | rfl | assumption) (e) rfl (by omega) rfl ?_
              rw [kv_si_n (by omega), zB e hen]
              refine kw_pI dX5_step_203 fX5_42 hz (by first | rfl | assumption) rfl rfl ?_
              refine kv_aload_n dX5_step_206 rfl ?_
              refine kv_aload_n dX5_step_207 rfl ?_
              refine kw_gI dX5_step_208 fX5_48 hz (by first | rfl | assumption) rfl rfl ?_
              rw [kv_si_n (by omega), kv_si_n (by omega), z4]
              refine kv_iconst dX5_step_211 1 ki_1 ?_
              refine kv_iadd dX5_step_212 ?_
              refine kw_pI dX5_step_213 fX5_29 hz (by first | rfl | assumption) rfl rfl ?_
              exact kv_vret dX5_step_216 rfl (by
                  first
                  | exact ⟨rfl, Ed, by rw [← he]; exact z4d, by rw [← he, ← hte]; exact z5d, by rw [← he, (kpTe_d hen hd).2]; exact z3d⟩
                  | exact ⟨rfl, El, by rw [← he]; exact z4l, by rw [← he, ← hte]; exact z5l, by rw [← he, (kpTe_l hen hd hl).2]; exact z3l⟩
                  | exact ⟨rfl, (E.si ⟨rfl, by decide, by decide⟩).si ⟨rfl, by decide, by decide⟩, by rw [kv_si_n (by omega), kv_si_n (by omega), ← he]; exact z4, by rw [kv_si_n (by omega), kv_si_s, ← he, (kpTe_e hen).1], by rw [kv_si_s, ← he, (kpTe_e hen).2]⟩
                  | exact ⟨rfl, ((E.si ⟨rfl, by decide, by decide⟩).si ⟨rfl, by decide, by decide⟩).si ⟨rfl, by decide, by decide⟩, by rw [kv_si_n (by omega), kv_si_n (by omega), kv_si_n (by omega), ← he]; exact z4, by rw [kv_si_s, ← he, (kpTe_o hen hd hl).1]; exact kn_add rfl (show (1 : Int32) = nI 1 from rfl), by rw [kv_si_n (by omega), kv_si_s, ← he, (kpTe_o hen hd hl).2]⟩)
            · rw [kv_si_n (by omega), zB e hen] at h16
              have hl : kpLr (B e) = true := h16
              refine kv_aload_n dX5_step_148 rfl ?_
              refine kv_bipush dX5_step_149 (-3) kb_m3 ?_
              refine kw_pI dX5_step_151 fX5_42 hz (by first | rfl | assumption) rfl rfl ?_
              obtain ⟨te, hte⟩ : ∃ te, te = kpTe B n e := ⟨_, rfl⟩
              have hlt := kpTe_lt (B := B) hen
              rw [← hte] at hlt
              have ter : kpRun kpLr B (n - e) e = te := (kpTe_l hen hd hl).1.symm.trans hte.symm
              obtain ⟨t1, t2, t3, t4⟩ := kpRun_s kpLr B (n - e) e
              rw [ter] at t1 t2 t3 t4
              refine KV.loc (ls2 := [some (.ref 388)]) ?_ (ksS rfl ksN)
              refine kn_loop (P := fun i => ∀ z : KMem, kEq kpS1 u z → z.2.1 388 4 = nI e → z.2.1 388 3 = -3 → z.2.1 388 5 = nI (e + i) → KV w l mX5_step 1 0 0 154 [some (.ref 388)] [] z (fun r z => r = none ∧ kEq kpS1 u z ∧ z.2.1 388 4 = nI (kpSk B n q) ∧ z.2.1 388 5 = nI (kpTe B n (kpSk B n q)) ∧ z.2.1 388 3 = kpWo B n (kpSk B n q))) (te - e) ?_ (fun i hi ih => ?_) _ ((E.si ⟨rfl, by decide, by decide⟩).si ⟨rfl, by decide, by decide⟩) (by rw [kv_si_n (by omega), kv_si_n (by omega)]; exact z4) (kv_si_s _ _ _ _) (by rw [kv_si_n (by omega), kv_si_s]; rfl)
              · intro zl El z4l z3l z5l
                have hzl := El.wd hu
                have r0 : zl.2.2.2 388 0 = some 11 := by rw [El.2.1]; exact cx.f0
                have znl : zl.2.1 388 1 = nI n := (El.2.2.1 _ _ (by unfold kpS1; omega)).trans cx.fn
                have zBl : ∀ i, i < n → zl.2.1 11 i = B i := fun i hi => (El.2.2.1 _ _ (by unfold kpS1; omega)).trans (cx.fB i hi)
                rw [show e + (te - e) = te by omega] at z5l
                refine kv_aload_n dX5_step_154 rfl ?_
                refine kw_gI dX5_step_155 fX5_29 hzl (by first | rfl | assumption) rfl rfl ?_
                rw [z5l]
                refine kv_aload_n dX5_step_158 rfl ?_
                refine kw_gI dX5_step_159 fX5_21 hzl (by first | rfl | assumption) rfl rfl ?_
                rw [znl]
                refine kv_icmp_ge dX5_step_162 216 (by decide) (fun h17 => ?_) (fun h17 => ?_)
                · exact kv_vret dX5_step_216 rfl (by
                      first
                      | exact ⟨rfl, Ed, by rw [← he]; exact z4d, by rw [← he, ← hte]; exact z5d, by rw [← he, (kpTe_d hen hd).2]; exact z3d⟩
                      | exact ⟨rfl, El, by rw [← he]; exact z4l, by rw [← he, ← hte]; exact z5l, by rw [← he, (kpTe_l hen hd hl).2]; exact z3l⟩
                      | exact ⟨rfl, (E.si ⟨rfl, by decide, by decide⟩).si ⟨rfl, by decide, by decide⟩, by rw [kv_si_n (by omega), kv_si_n (by omega), ← he]; exact z4, by rw [kv_si_n (by omega), kv_si_s, ← he, (kpTe_e hen).1], by rw [kv_si_s, ← he, (kpTe_e hen).2]⟩
                      | exact ⟨rfl, ((E.si ⟨rfl, by decide, by decide⟩).si ⟨rfl, by decide, by decide⟩).si ⟨rfl, by decide, by decide⟩, by rw [kv_si_n (by omega), kv_si_n (by omega), kv_si_n (by omega), ← he]; exact z4, by rw [kv_si_s, ← he, (kpTe_o hen hd hl).1]; exact kn_add rfl (show (1 : Int32) = nI 1 from rfl), by rw [kv_si_n (by omega), kv_si_s, ← he, (kpTe_o hen hd hl).2]⟩)
                · have hen2 : te < n := Nat.lt_of_not_le (fun q => h17 (nI_le q (by omega)))
                  refine kv_aload_n dX5_step_165 rfl ?_
                  refine kw_gRh dX5_step_166 fX5_9 hzl (by first | rfl | assumption) rfl rfl (by exact r0) ?_
                  refine kv_aload_n dX5_step_169 rfl ?_
                  refine kw_gI dX5_step_170 fX5_29 hzl (by first | rfl | assumption) rfl rfl ?_
                  rw [z5l]
                  refine kw_il dX5_step_173 hzl (by first | rfl | assumption) (_) rfl (by omega) rfl ?_
                  refine kw_Si [_] mX5_isLetter dX5_step_174 lX5_55 wX5_isLetter rfl rfl rfl (qX5_isLetter (by exact hzl) _) (by decide) ?_
                  refine kw_beq dX5_step_177 216 (by decide) (fun h18 => ?_) (fun h18 => ?_)
                  · exact kv_vret dX5_step_216 rfl (by
                        first
                        | exact ⟨rfl, Ed, by rw [← he]; exact z4d, by rw [← he, ← hte]; exact z5d, by rw [← he, (kpTe_d hen hd).2]; exact z3d⟩
                        | exact ⟨rfl, El, by rw [← he]; exact z4l, by rw [← he, ← hte]; exact z5l, by rw [← he, (kpTe_l hen hd hl).2]; exact z3l⟩
                        | exact ⟨rfl, (E.si ⟨rfl, by decide, by decide⟩).si ⟨rfl, by decide, by decide⟩, by rw [kv_si_n (by omega), kv_si_n (by omega), ← he]; exact z4, by rw [kv_si_n (by omega), kv_si_s, ← he, (kpTe_e hen).1], by rw [kv_si_s, ← he, (kpTe_e hen).2]⟩
                        | exact ⟨rfl, ((E.si ⟨rfl, by decide, by decide⟩).si ⟨rfl, by decide, by decide⟩).si ⟨rfl, by decide, by decide⟩, by rw [kv_si_n (by omega), kv_si_n (by omega), kv_si_n (by omega), ← he]; exact z4, by rw [kv_si_s, ← he, (kpTe_o hen hd hl).1]; exact kn_add rfl (show (1 : Int32) = nI 1 from rfl), by rw [kv_si_n (by omega), kv_si_s, ← he, (kpTe_o hen hd hl).2]⟩)
                  · have := t4 (by omega)
                    rw [zBl te hen2] at h18
                    rw [h18] at this
                    exact absurd this (by decide)
              · have ih2 := ih
                intro zl El z4l z3l z5l
                have hzl := El.wd hu
                have r0 : zl.2.2.2 388 0 = some 11 := by rw [El.2.1]; exact cx.f0
                have znl : zl.2.1 388 1 = nI n := (El.2.2.1 _ _ (by unfold kpS1; omega)).trans cx.fn
                have zBl : ∀ i, i < n → zl.2.1 11 i = B i := fun i hi => (El.2.2.1 _ _ (by unfold kpS1; omega)).trans (cx.fB i hi)
                refine kv_aload_n dX5_step_154 rfl ?_
                refine kw_gI dX5_step_155 fX5_29 hzl (by first | rfl | assumption) rfl rfl ?_
                rw [z5l]
                refine kv_aload_n dX5_step_158 rfl ?_
                refine kw_gI dX5_step_159 fX5_21 hzl (by first | rfl | assumption) rfl rfl ?_
                rw [znl]
                refine kv_icmp_ge dX5_step_162 216 (by decide) (fun h19 => ?_) (fun h19 => ?_)
                · exact absurd h19 (fun z => by have := (nI_leI (by omega) (by omega)).mp z; omega)
                · refine kv_aload_n dX5_step_165 rfl ?_
                  refine kw_gRh dX5_step_166 fX5_9 hzl (by first | rfl | assumption) rfl rfl (by exact r0) ?_
                  refine kv_aload_n dX5_step_169 rfl ?_
                  refine kw_gI dX5_step_170 fX5_29 hzl (by first | rfl | assumption) rfl rfl ?_
                  rw [z5l]
                  refine kw_il dX5_step_173 hzl (by first | rfl | assumption) (_) rfl (by omega) rfl ?_
                  refine kw_Si [_] mX5_isLetter dX5_step_174 lX5_55 wX5_isLetter rfl rfl rfl (qX5_isLetter (by exact hzl) _) (by decide) ?_
                  refine kw_beq dX5_step_177 216 (by decide) (fun h20 => ?_) (fun h20 => ?_)
                  · exact absurd (by rw [zBl _ (by omega)]; exact t3 (e + i) (by omega) (by omega)) h20
                  · refine kv_aload_n dX5_step_180 rfl ?_
                    refine kv_dup dX5_step_181 rfl ?_
                    refine kw_gI dX5_step_182 fX5_29 hzl (by first | rfl | assumption) rfl rfl ?_
                    rw [z5l]
                    refine kv_iconst dX5_step_185 1 ki_1 ?_
                    refine kv_iadd dX5_step_186 ?_
                    refine kw_pI dX5_step_187 fX5_29 hzl (by first | rfl | assumption) rfl rfl ?_
                    refine kv_goto dX5_step_190 154 (by decide) ?_
                    refine KV.loc (ih2 _ (El.si ⟨rfl, by decide, by decide⟩) (by rw [kv_si_n (by omega)]; exact z4l) (by rw [kv_si_n (by omega)]; exact z3l) ?_) (ksS rfl ksN)
                    rw [kv_si_s, ← Nat.add_assoc]
                    exact (kn_add rfl (show (1 : Int32) = nI 1 from rfl))
          · rw [kv_si_n (by omega), zB e hen] at h15
            have hd : kpDg (B e) = true := h15
            refine kv_aload_n dX5_step_88 rfl ?_
            refine kv_bipush dX5_step_89 (-2) kb_m2 ?_
            refine kw_pI dX5_step_91 fX5_42 hz (by first | rfl | assumption) rfl rfl ?_
            obtain ⟨te, hte⟩ : ∃ te, te = kpTe B n e := ⟨_, rfl⟩
            have hlt := kpTe_lt (B := B) hen
            rw [← hte] at hlt
            have ter : kpRun kpDg B (n - e) e = te := (kpTe_d hen hd).1.symm.trans hte.symm
            obtain ⟨t1, t2, t3, t4⟩ := kpRun_s kpDg B (n - e) e
            rw [ter] at t1 t2 t3 t4
            refine KV.loc (ls2 := [some (.ref 388)]) ?_ (ksS rfl ksN)
            refine kn_loop (P := fun i => ∀ z : KMem, kEq kpS1 u z → z.2.1 388 4 = nI e → z.2.1 388 3 = -2 → z.2.1 388 5 = nI (e + i) → KV w l mX5_step 1 0 0 94 [some (.ref 388)] [] z (fun r z => r = none ∧ kEq kpS1 u z ∧ z.2.1 388 4 = nI (kpSk B n q) ∧ z.2.1 388 5 = nI (kpTe B n (kpSk B n q)) ∧ z.2.1 388 3 = kpWo B n (kpSk B n q))) (te - e) ?_ (fun i hi ih => ?_) _ ((E.si ⟨rfl, by decide, by decide⟩).si ⟨rfl, by decide, by decide⟩) (by rw [kv_si_n (by omega), kv_si_n (by omega)]; exact z4) (kv_si_s _ _ _ _) (by rw [kv_si_n (by omega), kv_si_s]; rfl)
            · intro zd Ed z4d z3d z5d
              have hzd := Ed.wd hu
              have r0 : zd.2.2.2 388 0 = some 11 := by rw [Ed.2.1]; exact cx.f0
              have znd : zd.2.1 388 1 = nI n := (Ed.2.2.1 _ _ (by unfold kpS1; omega)).trans cx.fn
              have zBd : ∀ i, i < n → zd.2.1 11 i = B i := fun i hi => (Ed.2.2.1 _ _ (by unfold kpS1; omega)).trans (cx.fB i hi)
              rw [show e + (te - e) = te by omega] at z5d
              refine kv_aload_n dX5_step_94 rfl ?_
              refine kw_gI dX5_step_95 fX5_29 hzd (by first | rfl | assumption) rfl rfl ?_
              rw [z5d]
              refine kv_aload_n dX5_step_98 rfl ?_
              refine kw_gI dX5_step_99 fX5_21 hzd (by first | rfl | assumption) rfl rfl ?_
              rw [znd]
              refine kv_icmp_ge dX5_step_102 216 (by decide) (fun h21 => ?_) (fun h21 => ?_)
              · exact kv_vret dX5_step_216 rfl (by
                    first
                    | exact ⟨rfl, Ed, by rw [← he]; exact z4d, by rw [← he, ← hte]; exact z5d, by rw [← he, (kpTe_d hen hd).2]; exact z3d⟩
                    | exact ⟨rfl, El, by rw [← he]; exact z4l, by rw [← he, ← hte]; exact z5l, by rw [← he, (kpTe_l hen hd hl).2]; exact z3l⟩
                    | exact ⟨rfl, (E.si ⟨rfl, by decide, by decide⟩).si ⟨rfl, by decide, by decide⟩, by rw [kv_si_n (by omega), kv_si_n (by omega), ← he]; exact z4, by rw [kv_si_n (by omega), kv_si_s, ← he, (kpTe_e hen).1], by rw [kv_si_s, ← he, (kpTe_e hen).2]⟩
                    | exact ⟨rfl, ((E.si ⟨rfl, by decide, by decide⟩).si ⟨rfl, by decide, by decide⟩).si ⟨rfl, by decide, by decide⟩, by rw [kv_si_n (by omega), kv_si_n (by omega), kv_si_n (by omega), ← he]; exact z4, by rw [kv_si_s, ← he, (kpTe_o hen hd hl).1]; exact kn_add rfl (show (1 : Int32) = nI 1 from rfl), by rw [kv_si_n (by omega), kv_si_s, ← he, (kpTe_o hen hd hl).2]⟩)
              · have hen2 : te < n := Nat.lt_of_not_le (fun q => h21 (nI_le q (by omega)))
                refine kv_aload_n dX5_step_105 rfl ?_
                refine kw_gRh dX5_step_106 fX5_9 hzd (by first | rfl | assumption) rfl rfl (by exact r0) ?_
                refine kv_aload_n dX5_step_109 rfl ?_
                refine kw_gI dX5_step_110 fX5_29 hzd (by first | rfl | assumption) rfl rfl ?_
                rw [z5d]
                refine kw_il dX5_step_113 hzd (by first | rfl | assumption) (_) rfl (by omega) rfl ?_
                refine kw_Si [_] mX5_isDigit dX5_step_114 lX5_51 wX5_isDigit rfl rfl rfl (qX5_isDigit (by exact hzd) _) (by decide) ?_
                refine kw_beq dX5_step_117 216 (by decide) (fun h22 => ?_) (fun h22 => ?_)
                · exact kv_vret dX5_step_216 rfl (by
                      first
                      | exact ⟨rfl, Ed, by rw [← he]; exact z4d, by rw [← he, ← hte]; exact z5d, by rw [← he, (kpTe_d hen hd).2]; exact z3d⟩
                      | exact ⟨rfl, El, by rw [← he]; exact z4l, by rw [← he, ← hte]; exact z5l, by rw [← he, (kpTe_l hen hd hl).2]; exact z3l⟩
                      | exact ⟨rfl, (E.si ⟨rfl, by decide, by decide⟩).si ⟨rfl, by decide, by decide⟩, by rw [kv_si_n (by omega), kv_si_n (by omega), ← he]; exact z4, by rw [kv_si_n (by omega), kv_si_s, ← he, (kpTe_e hen).1], by rw [kv_si_s, ← he, (kpTe_e hen).2]⟩
                      | exact ⟨rfl, ((E.si ⟨rfl, by decide, by decide⟩).si ⟨rfl, by decide, by decide⟩).si ⟨rfl, by decide, by decide⟩, by rw [kv_si_n (by omega), kv_si_n (by omega), kv_si_n (by omega), ← he]; exact z4, by rw [kv_si_s, ← he, (kpTe_o hen hd hl).1]; exact kn_add rfl (show (1 : Int32) = nI 1 from rfl), by rw [kv_si_n (by omega), kv_si_s, ← he, (kpTe_o hen hd hl).2]⟩)
                · have := t4 (by omega)
                  rw [zBd te hen2] at h22
                  rw [h22] at this
                  exact absurd this (by decide)
            · have ih2 := ih
              intro zd Ed z4d z3d z5d
              have hzd := Ed.wd hu
              have r0 : zd.2.2.2 388 0 = some 11 := by rw [Ed.2.1]; exact cx.f0
              have znd : zd.2.1 388 1 = nI n := (Ed.2.2.1 _ _ (by unfold kpS1; omega)).trans cx.fn
              have zBd : ∀ i, i < n → zd.2.1 11 i = B i := fun i hi => (Ed.2.2.1 _ _ (by unfold kpS1; omega)).trans (cx.fB i hi)
              refine kv_aload_n dX5_step_94 rfl ?_
              refine kw_gI dX5_step_95 fX5_29 hzd (by first | rfl | assumption) rfl rfl ?_
              rw [z5d]
              refine kv_aload_n dX5_step_98 rfl ?_
              refine kw_gI dX5_step_99 fX5_21 hzd (by first | rfl | assumption) rfl rfl ?_
              rw [znd]
              refine kv_icmp_ge dX5_step_102 216 (by decide) (fun h23 => ?_) (fun h23 => ?_)
              · exact absurd h23 (fun z => by have := (nI_leI (by omega) (by omega)).mp z; omega)
              · refine kv_aload_n dX5_step_105 rfl ?_
                refine kw_gRh dX5_step_106 fX5_9 hzd (by first | rfl | assumption) rfl rfl (by exact r0) ?_
                refine kv_aload_n dX5_step_109 rfl ?_
                refine kw_gI dX5_step_110 fX5_29 hzd (by first | rfl | assumption) rfl rfl ?_
                rw [z5d]
                refine kw_il dX5_step_113 hzd (by first | rfl | assumption) (_) rfl (by omega) rfl ?_
                refine kw_Si [_] mX5_isDigit dX5_step_114 lX5_51 wX5_isDigit rfl rfl rfl (qX5_isDigit (by exact hzd) _) (by decide) ?_
                refine kw_beq dX5_step_117 216 (by decide) (fun h24 => ?_) (fun h24 => ?_)
                · exact absurd (by rw [zBd _ (by omega)]; exact t3 (e + i) (by omega) (by omega)) h24
                · refine kv_aload_n dX5_step_120 rfl ?_
                  refine kv_dup dX5_step_121 rfl ?_
                  refine kw_gI dX5_step_122 fX5_29 hzd (by first | rfl | assumption) rfl rfl ?_
                  rw [z5d]
                  refine kv_iconst dX5_step_125 1 ki_1 ?_
                  refine kv_iadd dX5_step_126 ?_
                  refine kw_pI dX5_step_127 fX5_29 hzd (by first | rfl | assumption) rfl rfl ?_
                  refine kv_goto dX5_step_130 94 (by decide) ?_
                  refine KV.loc (ih2 _ (Ed.si ⟨rfl, by decide, by decide⟩) (by rw [kv_si_n (by omega)]; exact z4d) (by rw [kv_si_n (by omega)]; exact z3d) ?_) (ksS rfl ksN)
                  rw [kv_si_s, ← Nat.add_assoc]
                  exact (kn_add rfl (show (1 : Int32) = nI 1 from rfl))
        · have hen : ¬ e < n := fun q => h14 (nI_lt q (by omega))
          refine kv_aload_n dX5_step_65 rfl ?_
          refine kv_iconst dX5_step_66 (-1) ki_m1 ?_
          refine kw_pI dX5_step_67 fX5_42 hz (by first | rfl | assumption) rfl rfl ?_
          refine kv_goto dX5_step_70 216 (by decide) ?_
          exact kv_vret dX5_step_216 rfl (by
              first
              | exact ⟨rfl, Ed, by rw [← he]; exact z4d, by rw [← he, ← hte]; exact z5d, by rw [← he, (kpTe_d hen hd).2]; exact z3d⟩
              | exact ⟨rfl, El, by rw [← he]; exact z4l, by rw [← he, ← hte]; exact z5l, by rw [← he, (kpTe_l hen hd hl).2]; exact z3l⟩
              | exact ⟨rfl, (E.si ⟨rfl, by decide, by decide⟩).si ⟨rfl, by decide, by decide⟩, by rw [kv_si_n (by omega), kv_si_n (by omega), ← he]; exact z4, by rw [kv_si_n (by omega), kv_si_s, ← he, (kpTe_e hen).1], by rw [kv_si_s, ← he, (kpTe_e hen).2]⟩
              | exact ⟨rfl, ((E.si ⟨rfl, by decide, by decide⟩).si ⟨rfl, by decide, by decide⟩).si ⟨rfl, by decide, by decide⟩, by rw [kv_si_n (by omega), kv_si_n (by omega), kv_si_n (by omega), ← he]; exact z4, by rw [kv_si_s, ← he, (kpTe_o hen hd hl).1]; exact kn_add rfl (show (1 : Int32) = nI 1 from rfl), by rw [kv_si_n (by omega), kv_si_s, ← he, (kpTe_o hen hd hl).2]⟩)
      · have := s4 (by omega)
        rw [zB e hen] at h13
        unfold kpSp at this
        rw [decide_eq_true h13] at this
        exact absurd this (by decide)
  · have ih1 := ih
    intro z E z4
    have hz := E.wd hu
    have r0 : z.2.2.2 388 0 = some 11 := by rw [E.2.1]; exact cx.f0
    have zn : z.2.1 388 1 = nI n := (E.2.2.1 _ _ (by unfold kpS1; omega)).trans cx.fn
    have zB : ∀ i, i < n → z.2.1 11 i = B i := fun i hi => (E.2.2.1 _ _ (by unfold kpS1; omega)).trans (cx.fB i hi)
    refine kv_aload_n dX5_step_8 rfl ?_
    refine kw_gI dX5_step_9 fX5_48 hz (by first | rfl | assumption) rfl rfl ?_
    rw [z4]
    refine kv_aload_n dX5_step_12 rfl ?_
    refine kw_gI dX5_step_13 fX5_21 hz (by first | rfl | assumption) rfl rfl ?_
    rw [zn]
    refine kv_icmp_ge dX5_step_16 46 (by decide) (fun h25 => ?_) (fun h25 => ?_)
    · exact absurd h25 (fun z => by have := (nI_leI (by omega) (by omega)).mp z; omega)
    · refine kv_aload_n dX5_step_19 rfl ?_
      refine kw_gRh dX5_step_20 fX5_9 hz (by first | rfl | assumption) rfl rfl (by exact r0) ?_
      refine kv_aload_n dX5_step_23 rfl ?_
      refine kw_gI dX5_step_24 fX5_48 hz (by first | rfl | assumption) rfl rfl ?_
      rw [z4]
      refine kw_il dX5_step_27 hz (by first | rfl | assumption) (_) rfl (by omega) rfl ?_
      refine kv_bipush dX5_step_28 32 kb_32 ?_
      refine kv_icmp_ne dX5_step_30 46 (by decide) (fun h26 => ?_) (fun h26 => ?_)
      · exact absurd ((zB _ (by omega)).trans (of_decide_eq_true (s3 (q + i) (by omega) (by omega)))) h26
      · refine kv_aload_n dX5_step_33 rfl ?_
        refine kv_dup dX5_step_34 rfl ?_
        refine kw_gI dX5_step_35 fX5_48 hz (by first | rfl | assumption) rfl rfl ?_
        rw [z4]
        refine kv_iconst dX5_step_38 1 ki_1 ?_
        refine kv_iadd dX5_step_39 ?_
        refine kw_pI dX5_step_40 fX5_48 hz (by first | rfl | assumption) rfl rfl ?_
        refine kv_goto dX5_step_43 8 (by decide) ?_
        refine KV.loc (ih1 _ (E.si ⟨rfl, by decide, by decide⟩) ?_) (ksS rfl ksN)
        rw [kv_si_s, ← Nat.add_assoc]
        exact (kn_add rfl (show (1 : Int32) = nI 1 from rfl))

