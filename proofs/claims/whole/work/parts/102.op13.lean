/-! check -/
abbrev kBad (t : Nat → Int32) (i : Nat) : Prop := (i % 3 = 2 ∧ ¬ 1 ≤ t i) ∨ (¬ i % 3 = 2 ∧ (kOut (t i) 0 10 ∨ (i % 3 = 1 ∧ t i = t (i - 1))))
def kFWA (t : Nat → Int32) (n : Nat) : Nat → Nat → Nat
  | 0, _ => n
  | f + 1, i => if kBad t i then i else kFWA t n f (i + 1)
def kFW (t : Nat → Int32) (n : Nat) : Nat := kFWA t n n 0
theorem kFWA_is {t : Nat → Int32} {n k : Nat} (hk : k < n) (hb : kBad t k) : ∀ f i, i + f = n → i ≤ k → (∀ j, i ≤ j → j < k → ¬ kBad t j) → kFWA t n f i = k
  | 0, i, h, h2, _ => absurd hk (by omega)
  | f + 1, i, h, h2, h3 => by
    unfold kFWA
    by_cases q : i = k
    · rw [q, if_pos hb]
    · rw [if_neg (h3 i (Nat.le_refl _) (by omega))]
      exact kFWA_is hk hb f (i + 1) (by omega) (by omega) (fun j h4 h5 => h3 j (by omega) h5)
theorem kFW_is {t : Nat → Int32} {n k : Nat} (hk : k < n) (hb : kBad t k) (h : ∀ j, j < k → ¬ kBad t j) : kFW t n = k := kFWA_is hk hb n 0 (by omega) (by omega) (fun j _ hj => h j hj)
theorem kFWA_no {t : Nat → Int32} {n : Nat} : ∀ f i, i + f = n → (∀ j, i ≤ j → j < n → ¬ kBad t j) → kFWA t n f i = n
  | 0, i, h, _ => rfl
  | f + 1, i, h, h3 => by
    unfold kFWA
    rw [if_neg (h3 i (Nat.le_refl _) (by omega))]
    exact kFWA_no f (i + 1) (by omega) (fun j h4 h5 => h3 j (by omega) h5)
theorem kFW_no {t : Nat → Int32} {n : Nat} (h : ∀ j, j < n → ¬ kBad t j) : kFW t n = n := kFWA_no n 0 (by omega) (fun j _ hj => h j hj)
theorem kFWA_le {t : Nat → Int32} {n : Nat} : ∀ f i, i + f = n → i ≤ kFWA t n f i ∧ kFWA t n f i ≤ n ∧ ∀ j, i ≤ j → j < kFWA t n f i → ¬ kBad t j
  | 0, i, h => ⟨by unfold kFWA; omega, Nat.le_refl _, fun j h1 h2 => absurd h2 (by unfold kFWA; omega)⟩
  | f + 1, i, h => by
    unfold kFWA
    by_cases q : kBad t i
    · rw [if_pos q]
      exact ⟨Nat.le_refl _, by omega, fun j h1 h2 => absurd h2 (by omega)⟩
    · rw [if_neg q]
      obtain ⟨h1, h2, h3⟩ := kFWA_le (t := t) (n := n) f (i + 1) (by omega)
      refine ⟨by omega, h2, fun j h4 h5 => ?_⟩
      by_cases z : j = i
      · rw [z]; exact q
      · exact h3 j (by omega) h5
theorem kFW_le (t : Nat → Int32) (n : Nat) : kFW t n ≤ n ∧ ∀ j, j < kFW t n → ¬ kBad t j := ⟨(kFWA_le n 0 (by omega)).2.1, fun j h => (kFWA_le (t := t) (n := n) n 0 (by omega)).2.2 j (Nat.zero_le _) h⟩
def kPayA (t : Nat → Int32) (f : Nat → Int64) : Nat → Nat → Int64
  | 0 => f
  | j + 1 => kUpL (kUpL (kPayA t f j) (t (3 * j)).toNatClampNeg (kPayA t f j (t (3 * j)).toNatClampNeg + (t (3 * j + 2)).toInt64)) (t (3 * j + 1)).toNatClampNeg (kUpL (kPayA t f j) (t (3 * j)).toNatClampNeg (kPayA t f j (t (3 * j)).toNatClampNeg + (t (3 * j + 2)).toInt64) (t (3 * j + 1)).toNatClampNeg - (t (3 * j + 2)).toInt64)
theorem kPayA_s {t : Nat → Int32} {f : Nat → Int64} {j A B : Nat} (hA : A ≤ 10) (hB : B ≤ 10) (eA : t (3 * j) = nI A) (eB : t (3 * j + 1) = nI B) : kPayA t f (j + 1) = kUpL (kUpL (kPayA t f j) A (kPayA t f j A + (t (3 * j + 2)).toInt64)) B (kUpL (kPayA t f j) A (kPayA t f j A + (t (3 * j + 2)).toInt64) B - (t (3 * j + 2)).toInt64) := by
  conv => lhs; unfold kPayA
  rw [eA, eB, nI_clamp (by omega), nI_clamp (by omega)]
theorem kBad_0 {t : Nat → Int32} {j : Nat} (h : ¬ kBad t (3 * j)) : ∃ A, A ≤ 10 ∧ t (3 * j) = nI A := kOut.bd (n := 10) (by omega) (fun q => h (Or.inr ⟨by omega, Or.inl q⟩))
theorem kBad_1 {t : Nat → Int32} {j : Nat} (h : ¬ kBad t (3 * j + 1)) : ∃ A, A ≤ 10 ∧ t (3 * j + 1) = nI A := kOut.bd (n := 10) (by omega) (fun q => h (Or.inr ⟨by omega, Or.inl q⟩))
theorem kn_inc3 (i : Nat) : nI (3 * i) + Int32.ofInt 3 = nI (3 * (i + 1)) := by rw [Nat.mul_add]; exact kn_add rfl (show Int32.ofInt 3 = nI 3 from rfl)
def kSR (a k : Nat) : Prop := a = 390
theorem kOX.pre {u u1 v : KMem} {x : Int32} {a : KA} {r : Option Value} (h : ∀ b, 413 ≤ b → u1.2.1 b = u.2.1 b) (q : kOX u1 x a r v) : kOX u x a r v := ⟨q.1, q.2.1, fun b hb => (q.2.2.1 b hb).trans (h b hb), q.2.2.2⟩
theorem kOM.pre {u u1 v : KMem} {x : Int32} {a : KA} {r : Option Value} (h : ∀ b, b ≤ 412 → u1.2.1 b = u.2.1 b) (q : kOM u1 x a r v) : kOM u x a r v := ⟨q.1, q.2.1, fun b hb => (q.2.2.1 b hb).trans (h b hb), q.2.2.2⟩
def kchkG (a : KA) : Nat → Int32 := kSet (a 0) 6 0
noncomputable def kChkV (t : Nat → Int32) (n : Nat) (f : Nat → Int64) : Int32 := if kFW t n < n ∨ ¬ n % 3 = 0 then nI (1 + kFW t n) else @ite _ (∀ k, k < 11 → kPayA t f (n / 3) k = 0) (Classical.propDecidable _) 0 (nI (1 + n))
noncomputable def kcheck (a : KA) (p0 : Int32) : Int32 × KA := if kOut p0 0 33 then (-1000001, kF (kUp1 a 0 (kchkG a)) 1) else (kChkV (fun i => a 0 (1388 + i)) (kN (a 0) 6) (kPosA (kchkG a) p0 (kN (kchkG a) 4)), kUp1 a 0 (kchkG a))
set_option maxRecDepth 20000 in
set_option maxHeartbeats 4000000 in
theorem qX4_firstWrong {w : KW} {l : Launch} {u : KMem} (hu : kWd u) {t : Nat → Int32} (n : Nat) (hn : n ≤ 33) (ht : ∀ i, i < n → u.2.1 12 i = t i) : KC w l mX4_firstWrong 1 0 0 [.ref 389, .ref 12, .int (nI n)] u (kq (some (.int (if kFW t n < n ∨ ¬ n % 3 = 0 then nI (kFW t n) else -1))) u) := by
  refine KC.of (ls := [_, _, _, _, _, _]) rfl rfl (Nat.le_of_ble_eq_true rfl) ?_
  refine kv_iconst dX4_firstWrong_0 0 ki_0 ?_
  refine kv_istore_n (ls2 := [_, _, _, _, _, _]) dX4_firstWrong_1 rfl rfl rfl rfl ?_
  refine KV.loc (ls2 := [some (.ref 389), some (.ref 12), some (.int (nI n)), some (.int (nI (0))), none, none]) ?_ (ksS rfl (ksS rfl (ksS rfl (ksS rfl (ks0 (ks0 ksN))))))
  refine kn_loop (P := fun i => (kFW t n = kFWA t n (n - i) i → KV w l mX4_firstWrong 1 0 0 2 [some (.ref 389), some (.ref 12), some (.int (nI n)), some (.int (nI i)), none, none] [] u (kq (some (.int (if kFW t n < n ∨ ¬ n % 3 = 0 then nI (kFW t n) else -1))) u))) (n) ?_ (fun i hi ih => ?_) rfl
  · intro hF
    rw [Nat.sub_self] at hF
    have hF1 : kFW t n = n := hF
    refine kv_iload_n dX4_firstWrong_2 rfl ?_
    refine kv_iload_n dX4_firstWrong_3 rfl ?_
    refine kv_icmp_ge dX4_firstWrong_4 92 (by decide) (fun h1 => ?_) (fun h1 => ?_)
    · refine kv_iload_n dX4_firstWrong_92 rfl ?_
      refine kv_iconst dX4_firstWrong_93 3 ki_3 ?_
      refine kv_irem dX4_firstWrong_94 (by decide) ?_
      rw [show (nI n - nI n / 3 * 3 : Int32) = nI (n % 3) from kn_rem (d := 3) (by omega) (by omega) (by omega)]
      refine kv_if_ne dX4_firstWrong_95 102 (by decide) (fun h2 => ?_) (fun h2 => ?_)
      · have m0 : ¬ n % 3 = 0 := fun q => h2 (by rw [q]; rfl)
        refine kv_iload_n dX4_firstWrong_102 rfl ?_
        exact kv_iret dX4_firstWrong_103 rfl ⟨by rw [hF1]; first | (rw [if_pos (Or.inr m0)]) | (rw [if_neg (fun q => q.elim (Nat.lt_irrefl n) (fun q => q m0))]), rfl⟩
      · have m0 : n % 3 = 0 := (nI_eq (b := 0) (by omega) (by omega)).mp h2
        refine kv_iconst dX4_firstWrong_98 (-1) ki_m1 ?_
        refine kv_goto dX4_firstWrong_99 103 (by decide) ?_
        exact kv_iret dX4_firstWrong_103 rfl ⟨by rw [hF1]; first | (rw [if_pos (Or.inr m0)]) | (rw [if_neg (fun q => q.elim (Nat.lt_irrefl n) (fun q => q m0))]), rfl⟩
    · exact absurd h1 (fun q => q (Int32.le_refl _))
  · intro hF
    have hF2 : kFW t n = if kBad t i then i else kFWA t n (n - (i + 1)) (i + 1) := by
      rw [hF, show n - i = n - (i + 1) + 1 by omega]
      rfl
    refine kv_iload_n dX4_firstWrong_2 rfl ?_
    refine kv_iload_n dX4_firstWrong_3 rfl ?_
    refine kv_icmp_ge dX4_firstWrong_4 92 (by decide) (fun h3 => ?_) (fun h3 => ?_)
    · exact absurd h3 (kn_ge hi (by omega))
    · refine kv_iload_n dX4_firstWrong_7 rfl ?_
      refine kv_aload_n dX4_firstWrong_8 rfl ?_
      refine kw_len (t := 0) dX4_firstWrong_9 hu (by first | rfl | assumption) rfl rfl ?_
      refine kv_icmp_ge dX4_firstWrong_10 92 (by decide) (fun h4 => ?_) (fun h4 => ?_)
      · exact absurd h4 (kn_ge (n := 33) (by omega) (by omega))
      · refine kv_iload_n dX4_firstWrong_13 rfl ?_
        refine kv_iconst dX4_firstWrong_14 3 ki_3 ?_
        refine kv_irem dX4_firstWrong_15 (by decide) ?_
        rw [show (nI i - nI i / 3 * 3 : Int32) = nI (i % 3) from kn_rem (d := 3) (by omega) (by omega) (by omega)]
        refine kv_iconst dX4_firstWrong_16 2 ki_2 ?_
        refine kv_icmp_ne dX4_firstWrong_17 24 (by decide) (fun h5 => ?_) (fun h5 => ?_)
        · have m2 : ¬ i % 3 = 2 := fun q => h5 (by rw [q]; rfl)
          refine kv_iconst dX4_firstWrong_24 0 ki_0 ?_
          refine kv_istore (ls2 := [_, _, _, _, _, _]) dX4_firstWrong_25 rfl rfl rfl rfl ?_
          refine kv_iload_n dX4_firstWrong_27 rfl ?_
          refine kv_iconst dX4_firstWrong_28 3 ki_3 ?_
          refine kv_irem dX4_firstWrong_29 (by decide) ?_
          rw [show (nI i - nI i / 3 * 3 : Int32) = nI (i % 3) from kn_rem (d := 3) (by omega) (by omega) (by omega)]
          refine kv_iconst dX4_firstWrong_30 1 ki_1 ?_
          refine kv_icmp_ne dX4_firstWrong_31 49 (by decide) (fun h6 => ?_) (fun h6 => ?_)
          · have m1 : ¬ i % 3 = 1 := fun q => h6 (by rw [q]; rfl)
            refine kv_iconst dX4_firstWrong_49 0 ki_0 ?_
            refine kv_istore (ls2 := [_, _, _, _, _, _]) dX4_firstWrong_50 rfl rfl rfl rfl ?_
            refine kv_iload dX4_firstWrong_52 rfl ?_
            refine kv_if_eq dX4_firstWrong_54 67 (by decide) (fun h7 => ?_) (fun h7 => ?_)
            · refine kv_aload_n dX4_firstWrong_67 rfl ?_
              refine kv_iload_n dX4_firstWrong_68 rfl ?_
              refine kw_il dX4_firstWrong_69 hu (by first | rfl | assumption) (i) rfl (by omega) rfl ?_
              rw [ht i hi]
              refine kv_iconst dX4_firstWrong_70 0 ki_0 ?_
              refine kv_bipush dX4_firstWrong_71 10 kb_10 ?_
              refine kw_SNi [_, _, _] mX11_outside dX4_firstWrong_73 lX4_104 wX11_outside rfl rfl rfl (qX11_outside (by exact hu) _ _ _) (by decide) ?_
              refine kw_bne dX4_firstWrong_76 84 (by decide) (fun h8 => ?_) (fun h8 => ?_)
              · have HB : kBad t i := Or.inr ⟨m2, Or.inl h8⟩
                refine kv_iload_n dX4_firstWrong_84 rfl ?_
                exact kv_iret dX4_firstWrong_85 rfl ⟨(by rw [hF2, if_pos HB]; exact congrArg (fun z => some (Value.int z)) (if_pos (Or.inl hi)).symm), rfl⟩
              · have mo : ¬ kOut (t i) 0 10 := h8
                refine kv_iload dX4_firstWrong_79 rfl ?_
                refine kv_if_eq dX4_firstWrong_81 86 (by decide) (fun h9 => ?_) (fun h9 => ?_)
                · have HN : ¬ kBad t i := by
                    rintro (⟨q1, q2⟩ | ⟨q1, q2 | ⟨q3, q4⟩⟩)
                    all_goals contradiction
                  refine kv_iinc (ls2 := [_, _, _, _, _, _]) dX4_firstWrong_86 (nI (i + 1)) rfl (kv_inc1 i) rfl rfl rfl rfl ?_
                  refine kv_goto dX4_firstWrong_89 2 (by decide) ?_
                  have hG := hF2
                  rw [if_neg HN] at hG
                  exact KV.loc (ih hG) (ksS rfl (ksS rfl (ksS rfl (ksS rfl (ks0 (ks0 ksN))))))
                · exact absurd h9 (by decide)
            · exact absurd h7 (by decide)
          · have m1 : i % 3 = 1 := (nI_eq (b := 1) (by omega) (by omega)).mp h6
            refine kv_aload_n dX4_firstWrong_34 rfl ?_
            refine kv_iload_n dX4_firstWrong_35 rfl ?_
            refine kw_il dX4_firstWrong_36 hu (by first | rfl | assumption) (i) rfl (by omega) rfl ?_
            rw [ht i hi]
            refine kv_aload_n dX4_firstWrong_37 rfl ?_
            refine kv_iload_n dX4_firstWrong_38 rfl ?_
            refine kv_iconst dX4_firstWrong_39 1 ki_1 ?_
            refine kv_isub dX4_firstWrong_40 ?_
            refine kw_il dX4_firstWrong_41 hu (by first | rfl | assumption) (i - 1) (kn_sub rfl (show (1 : Int32) = nI 1 from rfl) (by omega)) (by omega) rfl ?_
            rw [ht (i - 1) (by omega)]
            refine kv_icmp_ne dX4_firstWrong_42 49 (by decide) (fun h10 => ?_) (fun h10 => ?_)
            · have ms : ¬ t i = t (i - 1) := h10
              refine kv_iconst dX4_firstWrong_49 0 ki_0 ?_
              refine kv_istore (ls2 := [_, _, _, _, _, _]) dX4_firstWrong_50 rfl rfl rfl rfl ?_
              refine kv_iload dX4_firstWrong_52 rfl ?_
              refine kv_if_eq dX4_firstWrong_54 67 (by decide) (fun h11 => ?_) (fun h11 => ?_)
              · refine kv_aload_n dX4_firstWrong_67 rfl ?_
                refine kv_iload_n dX4_firstWrong_68 rfl ?_
                refine kw_il dX4_firstWrong_69 hu (by first | rfl | assumption) (i) rfl (by omega) rfl ?_
                rw [ht i hi]
                refine kv_iconst dX4_firstWrong_70 0 ki_0 ?_
                refine kv_bipush dX4_firstWrong_71 10 kb_10 ?_
                refine kw_SNi [_, _, _] mX11_outside dX4_firstWrong_73 lX4_104 wX11_outside rfl rfl rfl (qX11_outside (by exact hu) _ _ _) (by decide) ?_
                refine kw_bne dX4_firstWrong_76 84 (by decide) (fun h12 => ?_) (fun h12 => ?_)
                · have HB : kBad t i := Or.inr ⟨m2, Or.inl h12⟩
                  refine kv_iload_n dX4_firstWrong_84 rfl ?_
                  exact kv_iret dX4_firstWrong_85 rfl ⟨(by rw [hF2, if_pos HB]; exact congrArg (fun z => some (Value.int z)) (if_pos (Or.inl hi)).symm), rfl⟩
                · have mo : ¬ kOut (t i) 0 10 := h12
                  refine kv_iload dX4_firstWrong_79 rfl ?_
                  refine kv_if_eq dX4_firstWrong_81 86 (by decide) (fun h13 => ?_) (fun h13 => ?_)
                  · have HN : ¬ kBad t i := by
                      rintro (⟨q1, q2⟩ | ⟨q1, q2 | ⟨q3, q4⟩⟩)
                      all_goals contradiction
                    refine kv_iinc (ls2 := [_, _, _, _, _, _]) dX4_firstWrong_86 (nI (i + 1)) rfl (kv_inc1 i) rfl rfl rfl rfl ?_
                    refine kv_goto dX4_firstWrong_89 2 (by decide) ?_
                    have hG := hF2
                    rw [if_neg HN] at hG
                    exact KV.loc (ih hG) (ksS rfl (ksS rfl (ksS rfl (ksS rfl (ks0 (ks0 ksN))))))
                  · exact absurd h13 (by decide)
              · exact absurd h11 (by decide)
            · have ms : t i = t (i - 1) := h10
              refine kv_iconst dX4_firstWrong_45 1 ki_1 ?_
              refine kv_goto dX4_firstWrong_46 50 (by decide) ?_
              refine kv_istore (ls2 := [_, _, _, _, _, _]) dX4_firstWrong_50 rfl rfl rfl rfl ?_
              refine kv_iload dX4_firstWrong_52 rfl ?_
              refine kv_if_eq dX4_firstWrong_54 67 (by decide) (fun h14 => ?_) (fun h14 => ?_)
              · refine kv_aload_n dX4_firstWrong_67 rfl ?_
                refine kv_iload_n dX4_firstWrong_68 rfl ?_
                refine kw_il dX4_firstWrong_69 hu (by first | rfl | assumption) (i) rfl (by omega) rfl ?_
                rw [ht i hi]
                refine kv_iconst dX4_firstWrong_70 0 ki_0 ?_
                refine kv_bipush dX4_firstWrong_71 10 kb_10 ?_
                refine kw_SNi [_, _, _] mX11_outside dX4_firstWrong_73 lX4_104 wX11_outside rfl rfl rfl (qX11_outside (by exact hu) _ _ _) (by decide) ?_
                refine kw_bne dX4_firstWrong_76 84 (by decide) (fun h15 => ?_) (fun h15 => ?_)
                · have HB : kBad t i := Or.inr ⟨m2, Or.inl h15⟩
                  refine kv_iload_n dX4_firstWrong_84 rfl ?_
                  exact kv_iret dX4_firstWrong_85 rfl ⟨(by rw [hF2, if_pos HB]; exact congrArg (fun z => some (Value.int z)) (if_pos (Or.inl hi)).symm), rfl⟩
                · have mo : ¬ kOut (t i) 0 10 := h15
                  refine kv_iload dX4_firstWrong_79 rfl ?_
                  refine kv_if_eq dX4_firstWrong_81 86 (by decide) (fun h16 => ?_) (fun h16 => ?_)
                  · exact absurd h16 (by decide)
                  · have HB : kBad t i := Or.inr ⟨m2, Or.inr ⟨m1, ms⟩⟩
                    refine kv_iload_n dX4_firstWrong_84 rfl ?_
                    exact kv_iret dX4_firstWrong_85 rfl ⟨(by rw [hF2, if_pos HB]; exact congrArg (fun z => some (Value.int z)) (if_pos (Or.inl hi)).symm), rfl⟩
              · exact absurd h14 (by decide)
        · have m2 : i % 3 = 2 := (nI_eq (b := 2) (by omega) (by omega)).mp h5
          refine kv_iconst dX4_firstWrong_20 1 ki_1 ?_
          refine kv_goto dX4_firstWrong_21 25 (by decide) ?_
          refine kv_istore (ls2 := [_, _, _, _, _, _]) dX4_firstWrong_25 rfl rfl rfl rfl ?_
          refine kv_iload_n dX4_firstWrong_27 rfl ?_
          refine kv_iconst dX4_firstWrong_28 3 ki_3 ?_
          refine kv_irem dX4_firstWrong_29 (by decide) ?_
          rw [show (nI i - nI i / 3 * 3 : Int32) = nI (i % 3) from kn_rem (d := 3) (by omega) (by omega) (by omega)]
          refine kv_iconst dX4_firstWrong_30 1 ki_1 ?_
          refine kv_icmp_ne dX4_firstWrong_31 49 (by decide) (fun h17 => ?_) (fun h17 => ?_)
          · have m1 : ¬ i % 3 = 1 := fun q => h17 (by rw [q]; rfl)
            refine kv_iconst dX4_firstWrong_49 0 ki_0 ?_
            refine kv_istore (ls2 := [_, _, _, _, _, _]) dX4_firstWrong_50 rfl rfl rfl rfl ?_
            refine kv_iload dX4_firstWrong_52 rfl ?_
            refine kv_if_eq dX4_firstWrong_54 67 (by decide) (fun h18 => ?_) (fun h18 => ?_)
            · exact absurd h18 (by decide)
            · refine kv_aload_n dX4_firstWrong_57 rfl ?_
              refine kv_iload_n dX4_firstWrong_58 rfl ?_
              refine kw_il dX4_firstWrong_59 hu (by first | rfl | assumption) (i) rfl (by omega) rfl ?_
              rw [ht i hi]
              refine kv_iconst dX4_firstWrong_60 1 ki_1 ?_
              refine kv_icmp_ge dX4_firstWrong_61 86 (by decide) (fun h19 => ?_) (fun h19 => ?_)
              · have mc : 1 ≤ t i := h19
                have HN : ¬ kBad t i := by
                  rintro (⟨q1, q2⟩ | ⟨q1, q2 | ⟨q3, q4⟩⟩)
                  all_goals contradiction
                refine kv_iinc (ls2 := [_, _, _, _, _, _]) dX4_firstWrong_86 (nI (i + 1)) rfl (kv_inc1 i) rfl rfl rfl rfl ?_
                refine kv_goto dX4_firstWrong_89 2 (by decide) ?_
                have hG := hF2
                rw [if_neg HN] at hG
                exact KV.loc (ih hG) (ksS rfl (ksS rfl (ksS rfl (ksS rfl (ks0 (ks0 ksN))))))
              · have HB : kBad t i := Or.inl ⟨m2, h19⟩
                refine kv_goto dX4_firstWrong_64 84 (by decide) ?_
                refine kv_iload_n dX4_firstWrong_84 rfl ?_
                exact kv_iret dX4_firstWrong_85 rfl ⟨(by rw [hF2, if_pos HB]; exact congrArg (fun z => some (Value.int z)) (if_pos (Or.inl hi)).symm), rfl⟩
          · exact absurd ((nI_eq (b := 1) (by omega) (by omega)).mp h17) (by omega)

set_option maxRecDepth 20000 in
set_option maxHeartbeats 4000000 in
theorem qX4_pay {w : KW} {l : Launch} {u : KMem} (hu : kWd u) {t : Nat → Int32} {f : Nat → Int64} (n : Nat) (hn : n ≤ 33) (h3 : n % 3 = 0) (hb : ∀ i, i < n → ¬ kBad t i) (ht : ∀ i, i < n → u.2.1 12 i = t i) (hf : ∀ k, k < 11 → u.2.2.1 390 k = f k) : KC w l mX4_pay 1 0 0 [.ref 389, .ref 12, .int (nI n)] u (fun r v => r = none ∧ kEq kSR u v ∧ ∀ k, k < 11 → v.2.2.1 390 k = kPayA t f (n / 3) k) := by
  refine KC.of (ls := [_, _, _, _]) rfl rfl (Nat.le_of_ble_eq_true rfl) ?_
  refine kv_iconst dX4_pay_0 0 ki_0 ?_
  refine kv_istore_n (ls2 := [_, _, _, _]) dX4_pay_1 rfl rfl rfl rfl ?_
  refine KV.loc (ls2 := [some (.ref 389), some (.ref 12), some (.int (nI n)), some (.int (nI (3 * 0)))]) ?_ (ksS rfl (ksS rfl (ksS rfl (ksS rfl ksN))))
  refine kn_loop (P := fun i => ∀ v : KMem, kEq kSR u v → (∀ k, k < 11 → v.2.2.1 390 k = kPayA t f i k) → KV w l mX4_pay 1 0 0 2 [some (.ref 389), some (.ref 12), some (.int (nI n)), some (.int (nI (3 * i)))] [] v (fun r v => r = none ∧ kEq kSR u v ∧ ∀ k, k < 11 → v.2.2.1 390 k = kPayA t f (n / 3) k)) (n / 3) ?_ (fun i hi ih => ?_) u kEq.rf hf
  · intro v E hP
    have hv := E.wd hu
    refine kv_iload_n dX4_pay_2 rfl ?_
    refine kv_iconst dX4_pay_3 2 ki_2 ?_
    refine kv_iadd dX4_pay_4 ?_
    refine kv_iload_n dX4_pay_5 rfl ?_
    first | rw [show (nI (3 * i) + 2 : Int32) = nI (3 * i + 2) from kn_add rfl (show (2 : Int32) = nI 2 from rfl)] | rw [show (nI (3 * (n / 3)) + 2 : Int32) = nI (3 * (n / 3) + 2) from kn_add rfl (show (2 : Int32) = nI 2 from rfl)]
    refine kv_icmp_ge dX4_pay_6 85 (by decide) (fun h1 => ?_) (fun h1 => ?_)
    · exact kv_vret dX4_pay_85 rfl ⟨rfl, E, hP⟩
    · exact absurd (nI_le (by omega) (by omega)) h1
  · intro v E hP
    have hv := E.wd hu
    obtain ⟨A, hA, eA⟩ := kBad_0 (hb (3 * i) (by omega))
    obtain ⟨B, hB, eB⟩ := kBad_1 (hb (3 * i + 1) (by omega))
    have hp := kPayA_s (f := f) hA hB eA eB
    refine kv_iload_n dX4_pay_2 rfl ?_
    refine kv_iconst dX4_pay_3 2 ki_2 ?_
    refine kv_iadd dX4_pay_4 ?_
    refine kv_iload_n dX4_pay_5 rfl ?_
    first | rw [show (nI (3 * i) + 2 : Int32) = nI (3 * i + 2) from kn_add rfl (show (2 : Int32) = nI 2 from rfl)] | rw [show (nI (3 * (n / 3)) + 2 : Int32) = nI (3 * (n / 3) + 2) from kn_add rfl (show (2 : Int32) = nI 2 from rfl)]
    refine kv_icmp_ge dX4_pay_6 85 (by decide) (fun h2 => ?_) (fun h2 => ?_)
    · exact absurd h2 (kn_ge (by omega) (by omega))
    · refine kv_iload_n dX4_pay_9 rfl ?_
      refine kv_iconst dX4_pay_10 2 ki_2 ?_
      refine kv_iadd dX4_pay_11 ?_
      refine kv_aload_n dX4_pay_12 rfl ?_
      refine kw_len (t := 0) dX4_pay_13 hv (by first | rfl | assumption) rfl rfl ?_
      first | rw [show (nI (3 * i) + 2 : Int32) = nI (3 * i + 2) from kn_add rfl (show (2 : Int32) = nI 2 from rfl)] | skip
      refine kv_icmp_ge dX4_pay_14 85 (by decide) (fun h3 => ?_) (fun h3 => ?_)
      · exact absurd h3 (kn_ge (n := 33) (by omega) (by omega))
      · refine kv_aload_n dX4_pay_17 rfl ?_
        refine kv_iload_n dX4_pay_18 rfl ?_
        refine kw_il dX4_pay_19 hv (by first | rfl | assumption) (3 * i) rfl (by omega) rfl ?_
        rw [(show v.2.1 12 (3 * i) = t (3 * i) from (E.2.2.1 12 _ (by unfold kSR; omega)).trans (ht _ (by omega))), eA]
        refine kv_iconst dX4_pay_20 0 ki_0 ?_
        refine kv_bipush dX4_pay_21 10 kb_10 ?_
        refine kw_SNi [_, _, _] mX11_outside dX4_pay_23 lX4_104 wX11_outside rfl rfl rfl (qX11_outside (by exact hv) _ _ _) (by decide) ?_
        refine kw_bne dX4_pay_26 79 (by decide) (fun h4 => ?_) (fun h4 => ?_)
        · exact absurd h4 (fun q => hb (3 * i) (by omega) (Or.inr ⟨by omega, Or.inl (by rw [eA]; exact q)⟩))
        · refine kv_aload_n dX4_pay_29 rfl ?_
          refine kv_iload_n dX4_pay_30 rfl ?_
          refine kv_iconst dX4_pay_31 1 ki_1 ?_
          refine kv_iadd dX4_pay_32 ?_
          refine kw_il dX4_pay_33 hv (by first | rfl | assumption) (3 * i + 1) (kn_add rfl (show (1 : Int32) = nI 1 from rfl)) (by omega) rfl ?_
          rw [(show v.2.1 12 (3 * i + 1) = t (3 * i + 1) from (E.2.2.1 12 _ (by unfold kSR; omega)).trans (ht _ (by omega))), eB]
          refine kv_iconst dX4_pay_34 0 ki_0 ?_
          refine kv_bipush dX4_pay_35 10 kb_10 ?_
          refine kw_SNi [_, _, _] mX11_outside dX4_pay_37 lX4_104 wX11_outside rfl rfl rfl (qX11_outside (by exact hv) _ _ _) (by decide) ?_
          refine kw_bne dX4_pay_40 79 (by decide) (fun h5 => ?_) (fun h5 => ?_)
          · exact absurd h5 (fun q => hb (3 * i + 1) (by omega) (Or.inr ⟨by omega, Or.inl (by rw [eB]; exact q)⟩))
          · refine kv_aload_n dX4_pay_43 rfl ?_
            refine kw_gR dX4_pay_44 fX4_9 hv (by first | rfl | assumption) rfl rfl (by first | rfl | assumption) ?_
            refine kv_aload_n dX4_pay_47 rfl ?_
            refine kv_iload_n dX4_pay_48 rfl ?_
            refine kw_il dX4_pay_49 hv (by first | rfl | assumption) (3 * i) rfl (by omega) rfl ?_
            rw [(show v.2.1 12 (3 * i) = t (3 * i) from (E.2.2.1 12 _ (by unfold kSR; omega)).trans (ht _ (by omega))), eA]
            refine kv_dup2 dX4_pay_50 rfl rfl ?_
            refine kw_ll dX4_pay_51 hv (by first | rfl | assumption) (A) rfl (by omega) rfl ?_
            rw [hP _ (by omega)]
            refine kv_aload_n dX4_pay_52 rfl ?_
            refine kv_iload_n dX4_pay_53 rfl ?_
            refine kv_iconst dX4_pay_54 2 ki_2 ?_
            refine kv_iadd dX4_pay_55 ?_
            refine kw_il dX4_pay_56 hv (by first | rfl | assumption) (3 * i + 2) (kn_add rfl (show (2 : Int32) = nI 2 from rfl)) (by omega) rfl ?_
            rw [(show v.2.1 12 (3 * i + 2) = t (3 * i + 2) from (E.2.2.1 12 _ (by unfold kSR; omega)).trans (ht _ (by omega)))]
            refine kv_i2l dX4_pay_57 ?_
            refine kv_ladd dX4_pay_58 ?_
            refine kw_ls dX4_pay_59 hv (by first | rfl | assumption) (A) rfl (by omega) rfl ?_
            refine kv_aload_n dX4_pay_60 rfl ?_
            refine kw_gR dX4_pay_61 fX4_9 hv (by first | rfl | assumption) rfl rfl (by first | rfl | assumption) ?_
            refine kv_aload_n dX4_pay_64 rfl ?_
            refine kv_iload_n dX4_pay_65 rfl ?_
            refine kv_iconst dX4_pay_66 1 ki_1 ?_
            refine kv_iadd dX4_pay_67 ?_
            refine kw_il dX4_pay_68 hv (by first | rfl | assumption) (3 * i + 1) (kn_add rfl (show (1 : Int32) = nI 1 from rfl)) (by omega) rfl ?_
            rw [(show (kv_sg v 390 A _).2.1 12 (3 * i + 1) = t (3 * i + 1) from (E.2.2.1 12 _ (by unfold kSR; omega)).trans (ht _ (by omega))), eB]
            refine kv_dup2 dX4_pay_69 rfl rfl ?_
            refine kw_ll dX4_pay_70 hv (by first | rfl | assumption) (B) rfl (by omega) rfl ?_
            rw [kv_sg_up hP _ (by omega)]
            refine kv_aload_n dX4_pay_71 rfl ?_
            refine kv_iload_n dX4_pay_72 rfl ?_
            refine kv_iconst dX4_pay_73 2 ki_2 ?_
            refine kv_iadd dX4_pay_74 ?_
            refine kw_il dX4_pay_75 hv (by first | rfl | assumption) (3 * i + 2) (kn_add rfl (show (2 : Int32) = nI 2 from rfl)) (by omega) rfl ?_
            rw [(show (kv_sg v 390 A _).2.1 12 (3 * i + 2) = t (3 * i + 2) from (E.2.2.1 12 _ (by unfold kSR; omega)).trans (ht _ (by omega)))]
            refine kv_i2l dX4_pay_76 ?_
            refine kv_lsub dX4_pay_77 ?_
            refine kw_ls dX4_pay_78 hv (by first | rfl | assumption) (B) rfl (by omega) rfl ?_
            refine kv_iinc (ls2 := [_, _, _, _]) dX4_pay_79 (nI (3 * (i + 1))) rfl (kn_inc3 i) rfl rfl rfl rfl ?_
            refine kv_goto dX4_pay_82 2 (by decide) ?_
            exact KV.loc (ih _ ((E.sg rfl).sg rfl) (by rw [hp]; exact kv_sg_up (kv_sg_up hP))) (ksS rfl (ksS rfl (ksS rfl (ksS rfl ksN))))

set_option maxRecDepth 20000 in
set_option maxHeartbeats 4000000 in
theorem qX4_settled {w : KW} {l : Launch} {u : KMem} (hu : kWd u) {f : Nat → Int64} (hf : ∀ k, k < 11 → u.2.2.1 390 k = f k) : KC w l mX4_settled 0 0 0 [.ref 389] u (kq (some (.int (@ite _ (∀ k, k < 11 → f k = 0) (Classical.propDecidable _) 1 0))) u) := by
  refine KC.of (ls := [_, _]) rfl rfl (Nat.le_of_ble_eq_true rfl) ?_
  refine kv_iconst dX4_settled_0 0 ki_0 ?_
  refine kv_istore_n (ls2 := [_, _]) dX4_settled_1 rfl rfl rfl rfl ?_
  refine KV.loc (ls2 := [some (.ref 389), some (.int (nI (0)))]) ?_ (ksS rfl (ksS rfl ksN))
  refine kn_loop (P := fun i => ((∀ k, k < i → f k = 0) → KV w l mX4_settled 0 0 0 2 [some (.ref 389), some (.int (nI i))] [] u (kq (some (.int (@ite _ (∀ k, k < 11 → f k = 0) (Classical.propDecidable _) 1 0))) u))) (11) ?_ (fun i hi ih => ?_) (fun k hk => absurd hk (Nat.not_lt_zero k))
  · intro hA
    refine kv_iload_n dX4_settled_2 rfl ?_
    refine kv_bipush dX4_settled_3 11 kb_11 ?_
    refine kv_icmp_ge dX4_settled_5 27 (by decide) (fun h1 => ?_) (fun h1 => ?_)
    · refine kv_iconst dX4_settled_27 1 ki_1 ?_
      exact kv_zret dX4_settled_28 rfl kv_z1 ⟨by rw [if_pos hA], rfl⟩
    · exact absurd (Int32.le_refl (nI 11)) h1
  · intro hA
    refine kv_iload_n dX4_settled_2 rfl ?_
    refine kv_bipush dX4_settled_3 11 kb_11 ?_
    refine kv_icmp_ge dX4_settled_5 27 (by decide) (fun h2 => ?_) (fun h2 => ?_)
    · exact absurd h2 (kn_ge (n := 11) hi (by omega))
    · refine kv_aload_n dX4_settled_8 rfl ?_
      refine kw_gR dX4_settled_9 fX4_9 hu (by first | rfl | assumption) rfl rfl (by first | rfl | assumption) ?_
      refine kv_iload_n dX4_settled_12 rfl ?_
      refine kw_ll dX4_settled_13 hu (by first | rfl | assumption) (i) rfl (by omega) rfl ?_
      rw [hf i (by omega)]
      refine kv_lconst dX4_settled_14 0 kl_0 ?_
      refine kv_lcmp dX4_settled_15 ?_
      refine kv_if_eq dX4_settled_16 21 (by decide) (fun h3 => ?_) (fun h3 => ?_)
      · have hz : f i = 0 := (lg_cmp_eq _ _).mp h3
        refine kv_iinc (ls2 := [_, _]) dX4_settled_21 (nI (i + 1)) rfl (kv_inc1 i) rfl rfl rfl rfl ?_
        refine kv_goto dX4_settled_24 2 (by decide) ?_
        refine KV.loc (ih (fun k hk => ?_)) (ksS rfl (ksS rfl ksN))
        by_cases q : k = i
        · rw [q]; exact hz
        · exact hA k (by omega)
      · have hz : ¬ f i = 0 := fun q => h3 ((lg_cmp_eq _ _).mpr q)
        refine kv_iconst dX4_settled_19 0 ki_0 ?_
        exact kv_zret dX4_settled_20 rfl kv_z0 ⟨by rw [if_neg (fun q => hz (q i (by omega)))], rfl⟩

set_option maxRecDepth 20000 in
set_option maxHeartbeats 4000000 in
theorem qX11_check {w : KW} {l : Launch} {u : KMem} (hu : kWd u) {a : KA} (hx : kRX a u) (ho : kOk a) (p0 : Int32) : KC w l mX11_check 7 0 0 [.ref 0, .int p0] u (kOX u (kcheck a p0).1 (kcheck a p0).2) := by
  have hr := hx.1
  have hg := ho.1
  have hx20 := (hg.cnt (k := 2) rfl).2
  have hc30 := (hg.cnt (k := 0) rfl).2
  have ht10 := (hg.cnt (k := 3) rfl).2
  have he40 := (hg.cnt (k := 4) rfl).2
  have hs16 := hg.cnt (k := 1) rfl
  have hw := hg.cnt (k := 6) rfl
  have hg1 : kGI (kchkG a) := hg.untell (fun i hi => kSet_n hi) ⟨0, by omega, by unfold kchkG; rw [kSet_s]; rfl⟩ (by unfold kN kchkG; rw [kSet_s]; rfl)
  have ho1 : kOk (kUp1 a 0 (kchkG a)) := ho.now hg1
  have hr1 : kRS 1 (kchkG a) (kv_si u 1 17 0) := hr.untell hg (fun i hi => kSet_n hi) (fun b k q => kv_si_n q) (by unfold kchkG; rw [kv_si_s, kSet_s]) (by unfold kN kchkG; rw [kSet_s]; rfl)
  have hx1 : kRX (kUp1 a 0 (kchkG a)) (kv_si u 1 17 0) := hx.now ho hr1 (fun b k hb _ => kv_si_a (by omega))
  have b1 : ∀ b, 413 ≤ b → (kv_si u 1 17 0).2.1 b = u.2.1 b := fun b hb => kv_si_row (by omega)
  have ht : ∀ i, i < kN (a 0) 6 → (kv_si u 1 17 0).2.1 12 i = a 0 (1388 + i) := fun i hi => (kv_si_a (by omega)).trans (hr.2.2.2.2.2.2.2.2.2 i hi)
  refine KC.of (ls := [_, _, _, _]) rfl rfl (Nat.le_of_ble_eq_true rfl) ?_
  refine kv_aload_n dX11_check_0 rfl ?_
  refine kw_gR dX11_check_1 fX11_12 hu (by first | rfl | assumption) rfl rfl (by first | rfl | assumption) ?_
  refine kw_gI dX11_check_4 fX11_411 hu (by first | rfl | assumption) rfl rfl ?_
  rw [hr.n6, hw.1]
  refine kv_istore_n (ls2 := [_, _, _, _]) dX11_check_7 rfl rfl rfl rfl ?_
  refine kv_aload_n dX11_check_8 rfl ?_
  refine kw_gR dX11_check_9 fX11_12 hu (by first | rfl | assumption) rfl rfl (by first | rfl | assumption) ?_
  refine kv_iconst dX11_check_12 0 ki_0 ?_
  refine kw_pI dX11_check_13 fX11_411 hu (by first | rfl | assumption) rfl rfl ?_
  refine kv_iload_n dX11_check_16 rfl ?_
  refine kv_iconst dX11_check_17 0 ki_0 ?_
  refine kv_bipush dX11_check_18 33 kb_33 ?_
  refine kw_Si [_, _, _] mX11_outside dX11_check_20 lX11_69 wX11_outside rfl rfl rfl (qX11_outside (by exact hu) _ _ _) (by decide) ?_
  refine kw_beq dX11_check_23 33 (by decide) (fun h1 => ?_) (fun h1 => ?_)
  · have hS : kcheck a p0 = _ := if_neg h1
    by_cases hc : kFW (fun i => a 0 (1388 + i)) (kN (a 0) 6) < kN (a 0) 6 ∨ ¬ kN (a 0) 6 % 3 = 0
    · have hV : kChkV (fun i => a 0 (1388 + i)) (kN (a 0) 6) (kPosA (kchkG a) p0 (kN (kchkG a) 4)) = _ := if_pos hc
      have hle := (kFW_le (fun i => a 0 (1388 + i)) (kN (a 0) 6)).1
      refine kv_aload_n dX11_check_33 rfl ?_
      refine kw_gR dX11_check_34 fX11_40 hu (by first | rfl | assumption) rfl rfl (by first | rfl | assumption) ?_
      refine kv_aload_n dX11_check_37 rfl ?_
      refine kw_gR dX11_check_38 fX11_12 hu (by first | rfl | assumption) rfl rfl (by first | rfl | assumption) ?_
      refine kw_gR dX11_check_41 fX11_414 hu (by first | rfl | assumption) rfl rfl (by first | rfl | assumption) ?_
      refine kv_iload_n dX11_check_44 rfl ?_
      refine kw_Vi [_, _] mX4_firstWrong dX11_check_45 lX11_417 wX4_firstWrong kC4 hu rfl (by first | rfl | assumption) rfl rfl rfl (qX4_firstWrong (by exact hu) (kN (a 0) 6) (by omega) ht) (by decide) ?_
      refine kv_istore_n (ls2 := [_, _, _, _]) dX11_check_48 rfl rfl rfl rfl ?_
      rw [if_pos hc]
      refine kv_iload_n dX11_check_49 rfl ?_
      refine kv_if_lt dX11_check_50 57 (by decide) (fun h2 => ?_) (fun h2 => ?_)
      · exact absurd h2 (nI_nlt (b := 0) (Nat.zero_le _) (by omega))
      · refine kv_iconst dX11_check_53 1 ki_1 ?_
        refine kv_iload_n dX11_check_54 rfl ?_
        refine kv_iadd dX11_check_55 ?_
        exact kv_iret dX11_check_56 rfl (by rw [hS]; exact kOX.pre b1 (kOX.id hx1 ho1 hu kEq.rf (by rw [hV]; exact kn_add (show (1 : Int32) = nI 1 from rfl) rfl)))
    · have hV : kChkV (fun i => a 0 (1388 + i)) (kN (a 0) 6) (kPosA (kchkG a) p0 (kN (kchkG a) 4)) = _ := if_neg hc
      have hall : ∀ i, i < kN (a 0) 6 → ¬ kBad (fun i => a 0 (1388 + i)) i := fun i hi => (kFW_le (fun i => a 0 (1388 + i)) (kN (a 0) 6)).2 i (by omega)
      have hm3 : kN (a 0) 6 % 3 = 0 := by omega
      refine kv_aload_n dX11_check_33 rfl ?_
      refine kw_gR dX11_check_34 fX11_40 hu (by first | rfl | assumption) rfl rfl (by first | rfl | assumption) ?_
      refine kv_aload_n dX11_check_37 rfl ?_
      refine kw_gR dX11_check_38 fX11_12 hu (by first | rfl | assumption) rfl rfl (by first | rfl | assumption) ?_
      refine kw_gR dX11_check_41 fX11_414 hu (by first | rfl | assumption) rfl rfl (by first | rfl | assumption) ?_
      refine kv_iload_n dX11_check_44 rfl ?_
      refine kw_Vi [_, _] mX4_firstWrong dX11_check_45 lX11_417 wX4_firstWrong kC4 hu rfl (by first | rfl | assumption) rfl rfl rfl (qX4_firstWrong (by exact hu) (kN (a 0) 6) (by omega) ht) (by decide) ?_
      refine kv_istore_n (ls2 := [_, _, _, _]) dX11_check_48 rfl rfl rfl rfl ?_
      rw [if_neg hc]
      refine kv_iload_n dX11_check_49 rfl ?_
      refine kv_if_lt dX11_check_50 57 (by decide) (fun h3 => ?_) (fun h3 => ?_)
      · refine kv_aload_n dX11_check_57 rfl ?_
        refine kw_gR dX11_check_58 fX11_40 hu (by first | rfl | assumption) rfl rfl (by first | rfl | assumption) ?_
        refine kv_iload_n dX11_check_61 rfl ?_
        refine kw_VQ [_] mX4_open dX11_check_62 lX11_312 wX4_open kC4 hu rfl (by first | rfl | assumption) rfl rfl rfl (qX4_open (by exact hu) hr1 hg1 p0) (by decide) (fun _ v1 q1 => ?_)
        obtain ⟨rfl, eL, hp, hh⟩ := q1
        have e1 := kSL_X eL
        have hu1 := e1.wd hu
        have E1 := e1
        refine kv_aload_n dX11_check_65 rfl ?_
        refine kw_gR dX11_check_66 fX11_40 hu1 (by first | rfl | assumption) rfl rfl (by first | rfl | assumption) ?_
        refine kv_aload_n dX11_check_69 rfl ?_
        refine kw_gR dX11_check_70 fX11_12 hu1 (by first | rfl | assumption) rfl rfl (by first | rfl | assumption) ?_
        refine kw_gR dX11_check_73 fX11_414 hu1 (by first | rfl | assumption) rfl rfl (by first | rfl | assumption) ?_
        refine kv_iload_n dX11_check_76 rfl ?_
        refine kw_VQ [_, _] mX4_pay dX11_check_77 lX11_421 wX4_pay kC4 hu1 rfl (by first | rfl | assumption) rfl rfl rfl (qX4_pay hu1 (kN (a 0) 6) (by omega) hm3 hall (fun i hi => (eL.2.2.1 12 i (by unfold kSL; omega)).trans (ht i hi)) hp) (by decide) (fun _ v2 q2 => ?_)
        obtain ⟨rfl, eR, hq⟩ := q2
        have e2 : kEq kSX v1 v2 := eR.wk (fun a k q => Or.inl (by unfold kSR at q; omega))
        have hu2 := e2.wd hu1
        have E2 := E1.tr e2
        refine kv_aload_n dX11_check_80 rfl ?_
        refine kw_gR dX11_check_81 fX11_40 hu2 (by first | rfl | assumption) rfl rfl (by first | rfl | assumption) ?_
        refine kw_Vi [] mX4_settled dX11_check_84 lX11_425 wX4_settled kC4 hu2 rfl (by first | rfl | assumption) rfl rfl rfl (qX4_settled hu2 hq) (by decide) ?_
        refine kw_beq dX11_check_87 94 (by decide) (fun h4 => ?_) (fun h4 => ?_)
        · refine kv_iconst dX11_check_94 1 ki_1 ?_
          refine kv_iload_n dX11_check_95 rfl ?_
          refine kv_iadd dX11_check_96 ?_
          exact kv_iret dX11_check_97 rfl (by rw [hS]; exact kOX.pre b1 (kOX.id hx1 ho1 hu E2 (by rw [hV]; first | exact (if_pos ‹_›).symm | exact (kn_add (show (1 : Int32) = nI 1 from rfl) rfl).trans (if_neg ‹_›).symm)))
        · refine kv_iconst dX11_check_90 0 ki_0 ?_
          refine kv_goto dX11_check_91 97 (by decide) ?_
          exact kv_iret dX11_check_97 rfl (by rw [hS]; exact kOX.pre b1 (kOX.id hx1 ho1 hu E2 (by rw [hV]; first | exact (if_pos ‹_›).symm | exact (kn_add (show (1 : Int32) = nI 1 from rfl) rfl).trans (if_neg ‹_›).symm)))
      · exact absurd (show (-1 : Int32) < 0 by decide) h3
  · have hS : kcheck a p0 = _ := if_pos h1
    refine kv_aload_n dX11_check_26 rfl ?_
    refine kv_ldc dX11_check_27 kX11_74 ?_
    refine kw_Vi [_] mX11_refuse dX11_check_29 lX11_75 wX11_refuse kC11 hu rfl (by first | rfl | assumption) rfl rfl rfl (qX11_refuse (by exact hu) 1 (by decide) (by decide) _ (by decide)) (by decide) ?_
    exact kv_iret dX11_check_32 rfl (by rw [hS]; exact kOX.pre b1 (kOX.no hx1 ho1 hu (by decide) rfl))

