/-! as, late, count -/
theorem kKind_or (g : Nat → Int32) (e : Nat) : kKind g e = 4 ∨ kKind g e = 3 ∨ kKind g e = 2 ∨ kKind g e = 1 := by
  unfold kKind
  split
  · exact Or.inl rfl
  · split
    · exact Or.inr (Or.inl rfl)
    · split
      · exact Or.inr (Or.inr (Or.inl rfl))
      · exact Or.inr (Or.inr (Or.inr rfl))
abbrev kAnc (k p : Int32) : Prop := p = 0 ∨ p = k ∨ (k = 4 ∧ p = 3) ∨ (k = 2 ∧ p = 1)
noncomputable def kas (a : KA) (p0 p1 : Int32) : Int32 × KA := if kOut p0 0 (a 0 4 - 1) ∨ kOut p1 0 4 then (-1000001, kF a 1) else if kAnc (kKind (a 0) p0.toNatClampNeg) p1 then (a 0 (1128 + 5 * p0.toNatClampNeg + 2), a) else (-1000005, kF a 5)
def kLate (g : Nat → Int32) (e : Nat) (p : Int32) : Int64 := (if 0 < p - g (1128 + 5 * e + 4) - 30 then p - g (1128 + 5 * e + 4) - 30 else 0).toInt64 * (g 14).toInt64 * (g (1128 + 5 * e + 2)).toInt64 / 1000
def klate (a : KA) (p0 p1 : Int32) : Int32 × KA := if kOut p0 0 (a 0 4 - 1) ∨ kOut p1 0 999 then (-1000001, kF a 1) else ((if kLate (a 0) p0.toNatClampNeg p1 < 2000000000 then kLate (a 0) p0.toNatClampNeg p1 else 2000000000).toInt32, a)
theorem kLate_x (g : Nat → Int32) (e : Nat) (p : Int32) : (g (1128 + 5 * e + 2)).toInt64 * (g 14).toInt64 * (if 0 < p - g (1128 + 5 * e + 4) - 30 then p - g (1128 + 5 * e + 4) - 30 else 0).toInt64 / 1000 = kLate g e p := by
  unfold kLate
  congr 1
  rw [Int64.mul_comm (_ * _) (Int32.toInt64 (ite _ _ _)), Int64.mul_comm (g (1128 + 5 * e + 2)).toInt64, Int64.mul_assoc]
theorem kMinL (x y : Int64) : (if y < x then y else x) = if x < y then x else y := by
  by_cases h : y < x
  · rw [if_pos h, if_neg (fun q => by rw [Int64.lt_iff_toInt_lt] at h q; omega)]
  · rw [if_neg h]
    by_cases h2 : x < y
    · rw [if_pos h2]
    · rw [if_neg h2]
      apply Int64.toInt_inj.mp
      rw [Int64.lt_iff_toInt_lt] at h h2
      omega
def kCn (g : Nat → Int32) : Nat → Int32
  | 0 => 0
  | n + 1 => kCn g n + (if nI (kFst g n) = nI n then 1 else 0)
theorem kCn_y {g : Nat → Int32} {n : Nat} (h : nI (kFst g n) = nI n) : kCn g n + 1 = kCn g (n + 1) := by
  conv => rhs; unfold kCn
  rw [if_pos h]
theorem kCn_n {g : Nat → Int32} {n : Nat} (h : ¬ nI (kFst g n) = nI n) : kCn g n + 0 = kCn g (n + 1) := by
  conv => rhs; unfold kCn
  rw [if_neg h]
def kCountV (a : KA) (p : Int32) : Int32 := if p = 5 then kCn (a 0) (kN (a 0) 4) else if p = 6 then a 0 5 else if p = 7 then a 0 6 else if p = 8 then a 5 0 else a 0 p.toNatClampNeg
def kcount (a : KA) (p0 : Int32) : Int32 × KA := if kOut p0 0 8 then (-1000001, kF a 1) else (kCountV a p0, a)
theorem kOut_t {p : Int32} {n : Nat} (hn : n < 2147483648) (h : p.toInt < 0 ∨ (n : Int) < p.toInt) : kOut p 0 (nI n) := by
  rcases h with h | h
  · exact Or.inl (by rw [kLt]; exact h)
  · refine Or.inr (fun q => ?_)
    rw [kLe, nI_toInt hn] at q
    omega
theorem kOut_f {p : Int32} {n : Nat} (hn : n < 2147483648) (h : ¬ (p.toInt < 0 ∨ (n : Int) < p.toInt)) : ¬ kOut p 0 (nI n) := by
  intro q
  rcases q with q | q
  · exact h (Or.inl (by rw [kLt] at q; exact q))
  · refine h (Or.inr ?_)
    rw [kLe, nI_toInt hn] at q
    omega
theorem kOX.no_ {a : KA} {u v : KMem} {x y : Int32} (h : kRX a u) (ho : kOk a) (hu : kWd u) (e : kEq kSX u v) {k : Nat} (hk : k < 7) (hx : y = x) : kOX u x (kF a k) (some (.int y)) (kv_si v 400 k (v.2.1 400 k + 1)) := ⟨by rw [hx], e.wd hu, fun b hb => by rw [kv_si_row (by omega)]; exact e.row (fun k => by unfold kSX; omega), (h.of ho (fun b k _ q => e.2.2.1 b k q)).fnd ho hk⟩
theorem kOM.no_ {a : KA} {u v : KMem} {x y : Int32} (h : kRM a u) (hu : kWd u) (e : kEq kSM u v) {k : Nat} (hx : y = x) : kOM u x (kF a k) (some (.int y)) (kv_si v 416 k (v.2.1 416 k + 1)) := ⟨by rw [hx], e.wd hu, fun b hb => by rw [kv_si_row (by omega)]; exact e.row (fun k => by unfold kSM; omega), (kOM.id (x := y) (y := y) h hu e rfl).2.2.2.fnd⟩
set_option maxRecDepth 20000 in
set_option maxHeartbeats 4000000 in
theorem qX11_as {w : KW} {l : Launch} {u : KMem} (hu : kWd u) {a : KA} (hx : kRX a u) (ho : kOk a) (p0 p1 : Int32) : KC w l mX11_as 7 0 0 [.ref 0, .int p0, .int p1] u (kOX u (kas a p0 p1).1 (kas a p0 p1).2) := by
  have hr := hx.1
  have hg := ho.1
  have hx20 := (hg.cnt (k := 2) rfl).2
  have hc30 := (hg.cnt (k := 0) rfl).2
  have ht10 := (hg.cnt (k := 3) rfl).2
  have he40 := (hg.cnt (k := 4) rfl).2
  have hs16 := hg.cnt (k := 1) rfl
  refine KC.of (ls := [_, _, _, _, _]) rfl rfl (Nat.le_of_ble_eq_true rfl) ?_
  refine kv_aload_n dX11_as_0 rfl ?_
  refine kv_iload_n dX11_as_1 rfl ?_
  refine kw_Vi [_] mX11_noEntry dX11_as_2 lX11_273 wX11_noEntry kC11 hu rfl (by first | rfl | assumption) rfl rfl rfl (qX11_noEntry hu _) (by decide) ?_
  refine kw_bne dX11_as_5 17 (by decide) (fun h1 => ?_) (fun h1 => ?_)
  · rw [hr.n4] at h1
    have hS : kas a p0 p1 = (-1000001, kF a 1) := if_pos (Or.inl h1)
    refine kv_aload_n dX11_as_17 rfl ?_
    refine kv_ldc dX11_as_18 kX11_74 ?_
    refine kw_Vi [_] mX11_refuse dX11_as_20 lX11_75 wX11_refuse kC11 hu rfl (by first | rfl | assumption) rfl rfl rfl (qX11_refuse hu 1 (by decide) (by decide) _ (by decide)) (by decide) ?_
    exact kv_iret dX11_as_23 rfl (by rw [hS]; exact kOX.no hx ho hu (by decide) rfl)
  · rw [hr.n4] at h1
    have n1 : ¬ kOut p0 0 (a 0 4 - 1) := h1
    refine kv_iload_n dX11_as_8 rfl ?_
    refine kv_iconst dX11_as_9 0 ki_0 ?_
    refine kv_iconst dX11_as_10 4 ki_4 ?_
    refine kw_Si [_, _, _] mX11_outside dX11_as_11 lX11_69 wX11_outside rfl rfl rfl (qX11_outside hu _ _ _) (by decide) ?_
    refine kw_beq dX11_as_14 24 (by decide) (fun h2 => ?_) (fun h2 => ?_)
    · have n2 : ¬ kOut p1 0 4 := h2
      have hS : kas a p0 p1 = _ := if_neg (fun q => q.elim n1 n2)
      obtain ⟨e, he, rfl⟩ := hg.at (k := 4) rfl n1
      rw [nI_clamp (by omega)] at hS
      have ke := ks_entry e (by omega)
      have ke1 := ke.1
      have ke2 := ke.2
      refine kv_aload_n dX11_as_24 rfl ?_
      refine kw_gR dX11_as_25 fX11_24 hu (by first | rfl | assumption) rfl rfl (by first | rfl | assumption) ?_
      refine kv_iload_n dX11_as_28 rfl ?_
      refine kw_Vpi [_] mX3_kind dX11_as_29 lX11_293 wX3_kind kC3 hu rfl (by first | rfl | assumption) rfl rfl rfl (qX3_kind hu hr hg e he) (by decide) (fun v1 e1 => ?_)
      have hu1 := e1.wd hu
      have E1 := e1
      have hr1 := hr.eqX hg E1
      rcases kKind_or (a 0) e with hk | hk | hk | hk
      · rw [hk] at hS ⊢
        refine kv_istore_n (ls2 := [_, _, _, _, _]) dX11_as_32 rfl rfl rfl rfl ?_
        refine kv_iconst dX11_as_33 0 ki_0 ?_
        refine kv_istore (ls2 := [_, _, _, _, _]) dX11_as_34 rfl rfl rfl rfl ?_
        refine kv_iload dX11_as_36 rfl ?_
        refine kv_iconst dX11_as_38 5 ki_5 ?_
        refine kv_icmp_ge dX11_as_39 76 (by decide) (fun h3 => ?_) (fun h3 => ?_)
        · exact absurd h3 (by decide)
        · refine kv_iload_n dX11_as_42 rfl ?_
          refine kv_if_lt dX11_as_43 76 (by decide) (fun h4 => ?_) (fun h4 => ?_)
          · exact absurd h4 (by decide)
          · refine kv_iload_n dX11_as_46 rfl ?_
            refine kv_iload_n dX11_as_47 rfl ?_
            refine kv_icmp_ne dX11_as_48 64 (by decide) (fun h5 => ?_) (fun h5 => ?_)
            · refine kv_gets 4 dX11_as_64 rfl rfl sX11_296 ?_
              refine kv_iload_n dX11_as_67 rfl ?_
              refine kv_ildC (k := 4) dX11_as_68 rfl rfl rfl (show (4 : Int32) = nI 4 from rfl) (by decide) rfl ?_
              rw [show (([-1, 0, 1, 0, 3] : List Int32).getD 4 0) = 3 from rfl]
              refine kv_istore_n (ls2 := [_, _, _, _, _]) dX11_as_69 rfl rfl rfl rfl ?_
              refine kv_iinc (ls2 := [_, _, _, _, _]) dX11_as_70 (1 : Int32) rfl rfl rfl rfl rfl rfl ?_
              refine kv_goto dX11_as_73 36 (by decide) ?_
              refine kv_iload dX11_as_36 rfl ?_
              refine kv_iconst dX11_as_38 5 ki_5 ?_
              refine kv_icmp_ge dX11_as_39 76 (by decide) (fun h6 => ?_) (fun h6 => ?_)
              · exact absurd h6 (by decide)
              · refine kv_iload_n dX11_as_42 rfl ?_
                refine kv_if_lt dX11_as_43 76 (by decide) (fun h7 => ?_) (fun h7 => ?_)
                · exact absurd h7 (by decide)
                · refine kv_iload_n dX11_as_46 rfl ?_
                  refine kv_iload_n dX11_as_47 rfl ?_
                  refine kv_icmp_ne dX11_as_48 64 (by decide) (fun h8 => ?_) (fun h8 => ?_)
                  · refine kv_gets 4 dX11_as_64 rfl rfl sX11_296 ?_
                    refine kv_iload_n dX11_as_67 rfl ?_
                    refine kv_ildC (k := 3) dX11_as_68 rfl rfl rfl (show (3 : Int32) = nI 3 from rfl) (by decide) rfl ?_
                    rw [show (([-1, 0, 1, 0, 3] : List Int32).getD 3 0) = 0 from rfl]
                    refine kv_istore_n (ls2 := [_, _, _, _, _]) dX11_as_69 rfl rfl rfl rfl ?_
                    refine kv_iinc (ls2 := [_, _, _, _, _]) dX11_as_70 (2 : Int32) rfl rfl rfl rfl rfl rfl ?_
                    refine kv_goto dX11_as_73 36 (by decide) ?_
                    refine kv_iload dX11_as_36 rfl ?_
                    refine kv_iconst dX11_as_38 5 ki_5 ?_
                    refine kv_icmp_ge dX11_as_39 76 (by decide) (fun h9 => ?_) (fun h9 => ?_)
                    · exact absurd h9 (by decide)
                    · refine kv_iload_n dX11_as_42 rfl ?_
                      refine kv_if_lt dX11_as_43 76 (by decide) (fun h10 => ?_) (fun h10 => ?_)
                      · exact absurd h10 (by decide)
                      · refine kv_iload_n dX11_as_46 rfl ?_
                        refine kv_iload_n dX11_as_47 rfl ?_
                        refine kv_icmp_ne dX11_as_48 64 (by decide) (fun h11 => ?_) (fun h11 => ?_)
                        · refine kv_gets 4 dX11_as_64 rfl rfl sX11_296 ?_
                          refine kv_iload_n dX11_as_67 rfl ?_
                          refine kv_ildC (k := 0) dX11_as_68 rfl rfl rfl (show (0 : Int32) = nI 0 from rfl) (by decide) rfl ?_
                          rw [show (([-1, 0, 1, 0, 3] : List Int32).getD 0 0) = (-1) from rfl]
                          refine kv_istore_n (ls2 := [_, _, _, _, _]) dX11_as_69 rfl rfl rfl rfl ?_
                          refine kv_iinc (ls2 := [_, _, _, _, _]) dX11_as_70 (3 : Int32) rfl rfl rfl rfl rfl rfl ?_
                          refine kv_goto dX11_as_73 36 (by decide) ?_
                          refine kv_iload dX11_as_36 rfl ?_
                          refine kv_iconst dX11_as_38 5 ki_5 ?_
                          refine kv_icmp_ge dX11_as_39 76 (by decide) (fun h12 => ?_) (fun h12 => ?_)
                          · exact absurd h12 (by decide)
                          · refine kv_iload_n dX11_as_42 rfl ?_
                            refine kv_if_lt dX11_as_43 76 (by decide) (fun h13 => ?_) (fun h13 => ?_)
                            · rw [if_neg (fun q => by rcases q with q | q | ⟨q2, q⟩ | ⟨q2, q⟩ <;> first | exact absurd q2 (by decide) | (subst q; contradiction))] at hS
                              refine kv_aload_n dX11_as_76 rfl ?_
                              refine kv_ldc dX11_as_77 kX11_133 ?_
                              refine kw_Vi [_] mX11_refuse dX11_as_79 lX11_75 wX11_refuse kC11 hu1 rfl (by first | rfl | assumption) rfl rfl rfl (qX11_refuse hu1 5 (by decide) (by decide) _ (by decide)) (by decide) ?_
                              exact kv_iret dX11_as_82 rfl (by rw [hS]; exact kOX.no_ hx ho hu E1 (by decide) rfl)
                            · exact absurd h13 (by decide)
                        · rw [if_pos (show kAnc _ p1 by rw [← h11]; decide)] at hS
                          refine kv_aload_n dX11_as_51 rfl ?_
                          refine kw_gR dX11_as_52 fX11_12 hu1 (by first | rfl | assumption) rfl rfl (by first | rfl | assumption) ?_
                          refine kw_gR dX11_as_55 fX11_259 hu1 (by first | rfl | assumption) rfl rfl (by first | rfl | assumption) ?_
                          refine kv_iload_n dX11_as_58 rfl ?_
                          refine kw_al (t := 3) (n := 40) dX11_as_59 hu1 rfl rfl (e) rfl (by omega) rfl (by first | rfl | assumption) ?_
                          refine kw_gI dX11_as_60 fX11_282 hu1 (by first | rfl | assumption) rfl rfl ?_
                          rw [hr1.ent he 2 (by omega)]
                          exact kv_iret dX11_as_63 rfl (by rw [hS]; exact kOX.id hx ho hu E1 rfl)
                  · rw [if_pos (show kAnc _ p1 by rw [← h8]; decide)] at hS
                    refine kv_aload_n dX11_as_51 rfl ?_
                    refine kw_gR dX11_as_52 fX11_12 hu1 (by first | rfl | assumption) rfl rfl (by first | rfl | assumption) ?_
                    refine kw_gR dX11_as_55 fX11_259 hu1 (by first | rfl | assumption) rfl rfl (by first | rfl | assumption) ?_
                    refine kv_iload_n dX11_as_58 rfl ?_
                    refine kw_al (t := 3) (n := 40) dX11_as_59 hu1 rfl rfl (e) rfl (by omega) rfl (by first | rfl | assumption) ?_
                    refine kw_gI dX11_as_60 fX11_282 hu1 (by first | rfl | assumption) rfl rfl ?_
                    rw [hr1.ent he 2 (by omega)]
                    exact kv_iret dX11_as_63 rfl (by rw [hS]; exact kOX.id hx ho hu E1 rfl)
            · rw [if_pos (show kAnc _ p1 by rw [← h5]; decide)] at hS
              refine kv_aload_n dX11_as_51 rfl ?_
              refine kw_gR dX11_as_52 fX11_12 hu1 (by first | rfl | assumption) rfl rfl (by first | rfl | assumption) ?_
              refine kw_gR dX11_as_55 fX11_259 hu1 (by first | rfl | assumption) rfl rfl (by first | rfl | assumption) ?_
              refine kv_iload_n dX11_as_58 rfl ?_
              refine kw_al (t := 3) (n := 40) dX11_as_59 hu1 rfl rfl (e) rfl (by omega) rfl (by first | rfl | assumption) ?_
              refine kw_gI dX11_as_60 fX11_282 hu1 (by first | rfl | assumption) rfl rfl ?_
              rw [hr1.ent he 2 (by omega)]
              exact kv_iret dX11_as_63 rfl (by rw [hS]; exact kOX.id hx ho hu E1 rfl)
      · rw [hk] at hS ⊢
        refine kv_istore_n (ls2 := [_, _, _, _, _]) dX11_as_32 rfl rfl rfl rfl ?_
        refine kv_iconst dX11_as_33 0 ki_0 ?_
        refine kv_istore (ls2 := [_, _, _, _, _]) dX11_as_34 rfl rfl rfl rfl ?_
        refine kv_iload dX11_as_36 rfl ?_
        refine kv_iconst dX11_as_38 5 ki_5 ?_
        refine kv_icmp_ge dX11_as_39 76 (by decide) (fun h14 => ?_) (fun h14 => ?_)
        · exact absurd h14 (by decide)
        · refine kv_iload_n dX11_as_42 rfl ?_
          refine kv_if_lt dX11_as_43 76 (by decide) (fun h15 => ?_) (fun h15 => ?_)
          · exact absurd h15 (by decide)
          · refine kv_iload_n dX11_as_46 rfl ?_
            refine kv_iload_n dX11_as_47 rfl ?_
            refine kv_icmp_ne dX11_as_48 64 (by decide) (fun h16 => ?_) (fun h16 => ?_)
            · refine kv_gets 4 dX11_as_64 rfl rfl sX11_296 ?_
              refine kv_iload_n dX11_as_67 rfl ?_
              refine kv_ildC (k := 3) dX11_as_68 rfl rfl rfl (show (3 : Int32) = nI 3 from rfl) (by decide) rfl ?_
              rw [show (([-1, 0, 1, 0, 3] : List Int32).getD 3 0) = 0 from rfl]
              refine kv_istore_n (ls2 := [_, _, _, _, _]) dX11_as_69 rfl rfl rfl rfl ?_
              refine kv_iinc (ls2 := [_, _, _, _, _]) dX11_as_70 (1 : Int32) rfl rfl rfl rfl rfl rfl ?_
              refine kv_goto dX11_as_73 36 (by decide) ?_
              refine kv_iload dX11_as_36 rfl ?_
              refine kv_iconst dX11_as_38 5 ki_5 ?_
              refine kv_icmp_ge dX11_as_39 76 (by decide) (fun h17 => ?_) (fun h17 => ?_)
              · exact absurd h17 (by decide)
              · refine kv_iload_n dX11_as_42 rfl ?_
                refine kv_if_lt dX11_as_43 76 (by decide) (fun h18 => ?_) (fun h18 => ?_)
                · exact absurd h18 (by decide)
                · refine kv_iload_n dX11_as_46 rfl ?_
                  refine kv_iload_n dX11_as_47 rfl ?_
                  refine kv_icmp_ne dX11_as_48 64 (by decide) (fun h19 => ?_) (fun h19 => ?_)
                  · refine kv_gets 4 dX11_as_64 rfl rfl sX11_296 ?_
                    refine kv_iload_n dX11_as_67 rfl ?_
                    refine kv_ildC (k := 0) dX11_as_68 rfl rfl rfl (show (0 : Int32) = nI 0 from rfl) (by decide) rfl ?_
                    rw [show (([-1, 0, 1, 0, 3] : List Int32).getD 0 0) = (-1) from rfl]
                    refine kv_istore_n (ls2 := [_, _, _, _, _]) dX11_as_69 rfl rfl rfl rfl ?_
                    refine kv_iinc (ls2 := [_, _, _, _, _]) dX11_as_70 (2 : Int32) rfl rfl rfl rfl rfl rfl ?_
                    refine kv_goto dX11_as_73 36 (by decide) ?_
                    refine kv_iload dX11_as_36 rfl ?_
                    refine kv_iconst dX11_as_38 5 ki_5 ?_
                    refine kv_icmp_ge dX11_as_39 76 (by decide) (fun h20 => ?_) (fun h20 => ?_)
                    · exact absurd h20 (by decide)
                    · refine kv_iload_n dX11_as_42 rfl ?_
                      refine kv_if_lt dX11_as_43 76 (by decide) (fun h21 => ?_) (fun h21 => ?_)
                      · rw [if_neg (fun q => by rcases q with q | q | ⟨q2, q⟩ | ⟨q2, q⟩ <;> first | exact absurd q2 (by decide) | (subst q; contradiction))] at hS
                        refine kv_aload_n dX11_as_76 rfl ?_
                        refine kv_ldc dX11_as_77 kX11_133 ?_
                        refine kw_Vi [_] mX11_refuse dX11_as_79 lX11_75 wX11_refuse kC11 hu1 rfl (by first | rfl | assumption) rfl rfl rfl (qX11_refuse hu1 5 (by decide) (by decide) _ (by decide)) (by decide) ?_
                        exact kv_iret dX11_as_82 rfl (by rw [hS]; exact kOX.no_ hx ho hu E1 (by decide) rfl)
                      · exact absurd h21 (by decide)
                  · rw [if_pos (show kAnc _ p1 by rw [← h19]; decide)] at hS
                    refine kv_aload_n dX11_as_51 rfl ?_
                    refine kw_gR dX11_as_52 fX11_12 hu1 (by first | rfl | assumption) rfl rfl (by first | rfl | assumption) ?_
                    refine kw_gR dX11_as_55 fX11_259 hu1 (by first | rfl | assumption) rfl rfl (by first | rfl | assumption) ?_
                    refine kv_iload_n dX11_as_58 rfl ?_
                    refine kw_al (t := 3) (n := 40) dX11_as_59 hu1 rfl rfl (e) rfl (by omega) rfl (by first | rfl | assumption) ?_
                    refine kw_gI dX11_as_60 fX11_282 hu1 (by first | rfl | assumption) rfl rfl ?_
                    rw [hr1.ent he 2 (by omega)]
                    exact kv_iret dX11_as_63 rfl (by rw [hS]; exact kOX.id hx ho hu E1 rfl)
            · rw [if_pos (show kAnc _ p1 by rw [← h16]; decide)] at hS
              refine kv_aload_n dX11_as_51 rfl ?_
              refine kw_gR dX11_as_52 fX11_12 hu1 (by first | rfl | assumption) rfl rfl (by first | rfl | assumption) ?_
              refine kw_gR dX11_as_55 fX11_259 hu1 (by first | rfl | assumption) rfl rfl (by first | rfl | assumption) ?_
              refine kv_iload_n dX11_as_58 rfl ?_
              refine kw_al (t := 3) (n := 40) dX11_as_59 hu1 rfl rfl (e) rfl (by omega) rfl (by first | rfl | assumption) ?_
              refine kw_gI dX11_as_60 fX11_282 hu1 (by first | rfl | assumption) rfl rfl ?_
              rw [hr1.ent he 2 (by omega)]
              exact kv_iret dX11_as_63 rfl (by rw [hS]; exact kOX.id hx ho hu E1 rfl)
      · rw [hk] at hS ⊢
        refine kv_istore_n (ls2 := [_, _, _, _, _]) dX11_as_32 rfl rfl rfl rfl ?_
        refine kv_iconst dX11_as_33 0 ki_0 ?_
        refine kv_istore (ls2 := [_, _, _, _, _]) dX11_as_34 rfl rfl rfl rfl ?_
        refine kv_iload dX11_as_36 rfl ?_
        refine kv_iconst dX11_as_38 5 ki_5 ?_
        refine kv_icmp_ge dX11_as_39 76 (by decide) (fun h22 => ?_) (fun h22 => ?_)
        · exact absurd h22 (by decide)
        · refine kv_iload_n dX11_as_42 rfl ?_
          refine kv_if_lt dX11_as_43 76 (by decide) (fun h23 => ?_) (fun h23 => ?_)
          · exact absurd h23 (by decide)
          · refine kv_iload_n dX11_as_46 rfl ?_
            refine kv_iload_n dX11_as_47 rfl ?_
            refine kv_icmp_ne dX11_as_48 64 (by decide) (fun h24 => ?_) (fun h24 => ?_)
            · refine kv_gets 4 dX11_as_64 rfl rfl sX11_296 ?_
              refine kv_iload_n dX11_as_67 rfl ?_
              refine kv_ildC (k := 2) dX11_as_68 rfl rfl rfl (show (2 : Int32) = nI 2 from rfl) (by decide) rfl ?_
              rw [show (([-1, 0, 1, 0, 3] : List Int32).getD 2 0) = 1 from rfl]
              refine kv_istore_n (ls2 := [_, _, _, _, _]) dX11_as_69 rfl rfl rfl rfl ?_
              refine kv_iinc (ls2 := [_, _, _, _, _]) dX11_as_70 (1 : Int32) rfl rfl rfl rfl rfl rfl ?_
              refine kv_goto dX11_as_73 36 (by decide) ?_
              refine kv_iload dX11_as_36 rfl ?_
              refine kv_iconst dX11_as_38 5 ki_5 ?_
              refine kv_icmp_ge dX11_as_39 76 (by decide) (fun h25 => ?_) (fun h25 => ?_)
              · exact absurd h25 (by decide)
              · refine kv_iload_n dX11_as_42 rfl ?_
                refine kv_if_lt dX11_as_43 76 (by decide) (fun h26 => ?_) (fun h26 => ?_)
                · exact absurd h26 (by decide)
                · refine kv_iload_n dX11_as_46 rfl ?_
                  refine kv_iload_n dX11_as_47 rfl ?_
                  refine kv_icmp_ne dX11_as_48 64 (by decide) (fun h27 => ?_) (fun h27 => ?_)
                  · refine kv_gets 4 dX11_as_64 rfl rfl sX11_296 ?_
                    refine kv_iload_n dX11_as_67 rfl ?_
                    refine kv_ildC (k := 1) dX11_as_68 rfl rfl rfl (show (1 : Int32) = nI 1 from rfl) (by decide) rfl ?_
                    rw [show (([-1, 0, 1, 0, 3] : List Int32).getD 1 0) = 0 from rfl]
                    refine kv_istore_n (ls2 := [_, _, _, _, _]) dX11_as_69 rfl rfl rfl rfl ?_
                    refine kv_iinc (ls2 := [_, _, _, _, _]) dX11_as_70 (2 : Int32) rfl rfl rfl rfl rfl rfl ?_
                    refine kv_goto dX11_as_73 36 (by decide) ?_
                    refine kv_iload dX11_as_36 rfl ?_
                    refine kv_iconst dX11_as_38 5 ki_5 ?_
                    refine kv_icmp_ge dX11_as_39 76 (by decide) (fun h28 => ?_) (fun h28 => ?_)
                    · exact absurd h28 (by decide)
                    · refine kv_iload_n dX11_as_42 rfl ?_
                      refine kv_if_lt dX11_as_43 76 (by decide) (fun h29 => ?_) (fun h29 => ?_)
                      · exact absurd h29 (by decide)
                      · refine kv_iload_n dX11_as_46 rfl ?_
                        refine kv_iload_n dX11_as_47 rfl ?_
                        refine kv_icmp_ne dX11_as_48 64 (by decide) (fun h30 => ?_) (fun h30 => ?_)
                        · refine kv_gets 4 dX11_as_64 rfl rfl sX11_296 ?_
                          refine kv_iload_n dX11_as_67 rfl ?_
                          refine kv_ildC (k := 0) dX11_as_68 rfl rfl rfl (show (0 : Int32) = nI 0 from rfl) (by decide) rfl ?_
                          rw [show (([-1, 0, 1, 0, 3] : List Int32).getD 0 0) = (-1) from rfl]
                          refine kv_istore_n (ls2 := [_, _, _, _, _]) dX11_as_69 rfl rfl rfl rfl ?_
                          refine kv_iinc (ls2 := [_, _, _, _, _]) dX11_as_70 (3 : Int32) rfl rfl rfl rfl rfl rfl ?_
                          refine kv_goto dX11_as_73 36 (by decide) ?_
                          refine kv_iload dX11_as_36 rfl ?_
                          refine kv_iconst dX11_as_38 5 ki_5 ?_
                          refine kv_icmp_ge dX11_as_39 76 (by decide) (fun h31 => ?_) (fun h31 => ?_)
                          · exact absurd h31 (by decide)
                          · refine kv_iload_n dX11_as_42 rfl ?_
                            refine kv_if_lt dX11_as_43 76 (by decide) (fun h32 => ?_) (fun h32 => ?_)
                            · rw [if_neg (fun q => by rcases q with q | q | ⟨q2, q⟩ | ⟨q2, q⟩ <;> first | exact absurd q2 (by decide) | (subst q; contradiction))] at hS
                              refine kv_aload_n dX11_as_76 rfl ?_
                              refine kv_ldc dX11_as_77 kX11_133 ?_
                              refine kw_Vi [_] mX11_refuse dX11_as_79 lX11_75 wX11_refuse kC11 hu1 rfl (by first | rfl | assumption) rfl rfl rfl (qX11_refuse hu1 5 (by decide) (by decide) _ (by decide)) (by decide) ?_
                              exact kv_iret dX11_as_82 rfl (by rw [hS]; exact kOX.no_ hx ho hu E1 (by decide) rfl)
                            · exact absurd h32 (by decide)
                        · rw [if_pos (show kAnc _ p1 by rw [← h30]; decide)] at hS
                          refine kv_aload_n dX11_as_51 rfl ?_
                          refine kw_gR dX11_as_52 fX11_12 hu1 (by first | rfl | assumption) rfl rfl (by first | rfl | assumption) ?_
                          refine kw_gR dX11_as_55 fX11_259 hu1 (by first | rfl | assumption) rfl rfl (by first | rfl | assumption) ?_
                          refine kv_iload_n dX11_as_58 rfl ?_
                          refine kw_al (t := 3) (n := 40) dX11_as_59 hu1 rfl rfl (e) rfl (by omega) rfl (by first | rfl | assumption) ?_
                          refine kw_gI dX11_as_60 fX11_282 hu1 (by first | rfl | assumption) rfl rfl ?_
                          rw [hr1.ent he 2 (by omega)]
                          exact kv_iret dX11_as_63 rfl (by rw [hS]; exact kOX.id hx ho hu E1 rfl)
                  · rw [if_pos (show kAnc _ p1 by rw [← h27]; decide)] at hS
                    refine kv_aload_n dX11_as_51 rfl ?_
                    refine kw_gR dX11_as_52 fX11_12 hu1 (by first | rfl | assumption) rfl rfl (by first | rfl | assumption) ?_
                    refine kw_gR dX11_as_55 fX11_259 hu1 (by first | rfl | assumption) rfl rfl (by first | rfl | assumption) ?_
                    refine kv_iload_n dX11_as_58 rfl ?_
                    refine kw_al (t := 3) (n := 40) dX11_as_59 hu1 rfl rfl (e) rfl (by omega) rfl (by first | rfl | assumption) ?_
                    refine kw_gI dX11_as_60 fX11_282 hu1 (by first | rfl | assumption) rfl rfl ?_
                    rw [hr1.ent he 2 (by omega)]
                    exact kv_iret dX11_as_63 rfl (by rw [hS]; exact kOX.id hx ho hu E1 rfl)
            · rw [if_pos (show kAnc _ p1 by rw [← h24]; decide)] at hS
              refine kv_aload_n dX11_as_51 rfl ?_
              refine kw_gR dX11_as_52 fX11_12 hu1 (by first | rfl | assumption) rfl rfl (by first | rfl | assumption) ?_
              refine kw_gR dX11_as_55 fX11_259 hu1 (by first | rfl | assumption) rfl rfl (by first | rfl | assumption) ?_
              refine kv_iload_n dX11_as_58 rfl ?_
              refine kw_al (t := 3) (n := 40) dX11_as_59 hu1 rfl rfl (e) rfl (by omega) rfl (by first | rfl | assumption) ?_
              refine kw_gI dX11_as_60 fX11_282 hu1 (by first | rfl | assumption) rfl rfl ?_
              rw [hr1.ent he 2 (by omega)]
              exact kv_iret dX11_as_63 rfl (by rw [hS]; exact kOX.id hx ho hu E1 rfl)
      · rw [hk] at hS ⊢
        refine kv_istore_n (ls2 := [_, _, _, _, _]) dX11_as_32 rfl rfl rfl rfl ?_
        refine kv_iconst dX11_as_33 0 ki_0 ?_
        refine kv_istore (ls2 := [_, _, _, _, _]) dX11_as_34 rfl rfl rfl rfl ?_
        refine kv_iload dX11_as_36 rfl ?_
        refine kv_iconst dX11_as_38 5 ki_5 ?_
        refine kv_icmp_ge dX11_as_39 76 (by decide) (fun h33 => ?_) (fun h33 => ?_)
        · exact absurd h33 (by decide)
        · refine kv_iload_n dX11_as_42 rfl ?_
          refine kv_if_lt dX11_as_43 76 (by decide) (fun h34 => ?_) (fun h34 => ?_)
          · exact absurd h34 (by decide)
          · refine kv_iload_n dX11_as_46 rfl ?_
            refine kv_iload_n dX11_as_47 rfl ?_
            refine kv_icmp_ne dX11_as_48 64 (by decide) (fun h35 => ?_) (fun h35 => ?_)
            · refine kv_gets 4 dX11_as_64 rfl rfl sX11_296 ?_
              refine kv_iload_n dX11_as_67 rfl ?_
              refine kv_ildC (k := 1) dX11_as_68 rfl rfl rfl (show (1 : Int32) = nI 1 from rfl) (by decide) rfl ?_
              rw [show (([-1, 0, 1, 0, 3] : List Int32).getD 1 0) = 0 from rfl]
              refine kv_istore_n (ls2 := [_, _, _, _, _]) dX11_as_69 rfl rfl rfl rfl ?_
              refine kv_iinc (ls2 := [_, _, _, _, _]) dX11_as_70 (1 : Int32) rfl rfl rfl rfl rfl rfl ?_
              refine kv_goto dX11_as_73 36 (by decide) ?_
              refine kv_iload dX11_as_36 rfl ?_
              refine kv_iconst dX11_as_38 5 ki_5 ?_
              refine kv_icmp_ge dX11_as_39 76 (by decide) (fun h36 => ?_) (fun h36 => ?_)
              · exact absurd h36 (by decide)
              · refine kv_iload_n dX11_as_42 rfl ?_
                refine kv_if_lt dX11_as_43 76 (by decide) (fun h37 => ?_) (fun h37 => ?_)
                · exact absurd h37 (by decide)
                · refine kv_iload_n dX11_as_46 rfl ?_
                  refine kv_iload_n dX11_as_47 rfl ?_
                  refine kv_icmp_ne dX11_as_48 64 (by decide) (fun h38 => ?_) (fun h38 => ?_)
                  · refine kv_gets 4 dX11_as_64 rfl rfl sX11_296 ?_
                    refine kv_iload_n dX11_as_67 rfl ?_
                    refine kv_ildC (k := 0) dX11_as_68 rfl rfl rfl (show (0 : Int32) = nI 0 from rfl) (by decide) rfl ?_
                    rw [show (([-1, 0, 1, 0, 3] : List Int32).getD 0 0) = (-1) from rfl]
                    refine kv_istore_n (ls2 := [_, _, _, _, _]) dX11_as_69 rfl rfl rfl rfl ?_
                    refine kv_iinc (ls2 := [_, _, _, _, _]) dX11_as_70 (2 : Int32) rfl rfl rfl rfl rfl rfl ?_
                    refine kv_goto dX11_as_73 36 (by decide) ?_
                    refine kv_iload dX11_as_36 rfl ?_
                    refine kv_iconst dX11_as_38 5 ki_5 ?_
                    refine kv_icmp_ge dX11_as_39 76 (by decide) (fun h39 => ?_) (fun h39 => ?_)
                    · exact absurd h39 (by decide)
                    · refine kv_iload_n dX11_as_42 rfl ?_
                      refine kv_if_lt dX11_as_43 76 (by decide) (fun h40 => ?_) (fun h40 => ?_)
                      · rw [if_neg (fun q => by rcases q with q | q | ⟨q2, q⟩ | ⟨q2, q⟩ <;> first | exact absurd q2 (by decide) | (subst q; contradiction))] at hS
                        refine kv_aload_n dX11_as_76 rfl ?_
                        refine kv_ldc dX11_as_77 kX11_133 ?_
                        refine kw_Vi [_] mX11_refuse dX11_as_79 lX11_75 wX11_refuse kC11 hu1 rfl (by first | rfl | assumption) rfl rfl rfl (qX11_refuse hu1 5 (by decide) (by decide) _ (by decide)) (by decide) ?_
                        exact kv_iret dX11_as_82 rfl (by rw [hS]; exact kOX.no_ hx ho hu E1 (by decide) rfl)
                      · exact absurd h40 (by decide)
                  · rw [if_pos (show kAnc _ p1 by rw [← h38]; decide)] at hS
                    refine kv_aload_n dX11_as_51 rfl ?_
                    refine kw_gR dX11_as_52 fX11_12 hu1 (by first | rfl | assumption) rfl rfl (by first | rfl | assumption) ?_
                    refine kw_gR dX11_as_55 fX11_259 hu1 (by first | rfl | assumption) rfl rfl (by first | rfl | assumption) ?_
                    refine kv_iload_n dX11_as_58 rfl ?_
                    refine kw_al (t := 3) (n := 40) dX11_as_59 hu1 rfl rfl (e) rfl (by omega) rfl (by first | rfl | assumption) ?_
                    refine kw_gI dX11_as_60 fX11_282 hu1 (by first | rfl | assumption) rfl rfl ?_
                    rw [hr1.ent he 2 (by omega)]
                    exact kv_iret dX11_as_63 rfl (by rw [hS]; exact kOX.id hx ho hu E1 rfl)
            · rw [if_pos (show kAnc _ p1 by rw [← h35]; decide)] at hS
              refine kv_aload_n dX11_as_51 rfl ?_
              refine kw_gR dX11_as_52 fX11_12 hu1 (by first | rfl | assumption) rfl rfl (by first | rfl | assumption) ?_
              refine kw_gR dX11_as_55 fX11_259 hu1 (by first | rfl | assumption) rfl rfl (by first | rfl | assumption) ?_
              refine kv_iload_n dX11_as_58 rfl ?_
              refine kw_al (t := 3) (n := 40) dX11_as_59 hu1 rfl rfl (e) rfl (by omega) rfl (by first | rfl | assumption) ?_
              refine kw_gI dX11_as_60 fX11_282 hu1 (by first | rfl | assumption) rfl rfl ?_
              rw [hr1.ent he 2 (by omega)]
              exact kv_iret dX11_as_63 rfl (by rw [hS]; exact kOX.id hx ho hu E1 rfl)
    · have hS : kas a p0 p1 = (-1000001, kF a 1) := if_pos (Or.inr h2)
      refine kv_aload_n dX11_as_17 rfl ?_
      refine kv_ldc dX11_as_18 kX11_74 ?_
      refine kw_Vi [_] mX11_refuse dX11_as_20 lX11_75 wX11_refuse kC11 hu rfl (by first | rfl | assumption) rfl rfl rfl (qX11_refuse hu 1 (by decide) (by decide) _ (by decide)) (by decide) ?_
      exact kv_iret dX11_as_23 rfl (by rw [hS]; exact kOX.no hx ho hu (by decide) rfl)

set_option maxRecDepth 20000 in
set_option maxHeartbeats 4000000 in
theorem qX12_as {w : KW} {l : Launch} {u : KMem} (hu : kWd u) {a : KA} (hm : kRM a u) (ho : kOk a) (p0 p1 : Int32) : KC w l mX12_as 10 0 0 [.ref 413, .int p0, .int p1] u (kOM u (kas a p0 p1).1 (kas a p0 p1).2) := by
  have eg := hm.1
  have hg := ho.1
  have hx20 := (hg.cnt (k := 2) rfl).2
  have hc30 := (hg.cnt (k := 0) rfl).2
  have ht10 := (hg.cnt (k := 3) rfl).2
  have he40 := (hg.cnt (k := 4) rfl).2
  have hs16 := hg.cnt (k := 1) rfl
  refine KC.of (ls := [_, _, _, _]) rfl rfl (Nat.le_of_ble_eq_true rfl) ?_
  refine kv_aload_n dX12_as_0 rfl ?_
  refine kv_iload_n dX12_as_1 rfl ?_
  refine kv_iconst dX12_as_2 4 ki_4 ?_
  refine kw_Vi [_, _] mX12_is dX12_as_3 lX12_93 wX12_is kC12 hu rfl (by first | rfl | assumption) rfl rfl rfl (gX12_is hu eg _ 4 (by omega)) (by decide) ?_
  refine kw_beq dX12_as_6 18 (by decide) (fun h1 => ?_) (fun h1 => ?_)
  · have hS : kas a p0 p1 = (-1000001, kF a 1) := if_pos (Or.inl (kIn_n h1))
    refine kv_aload_n dX12_as_18 rfl ?_
    refine kv_ldc dX12_as_19 kX12_83 ?_
    refine kw_Vi [_] mX12_finding dX12_as_21 lX12_84 wX12_finding kC12 hu rfl (by first | rfl | assumption) rfl rfl rfl (qX12_finding hu 1 (by decide) (by decide) _ (by decide)) (by decide) ?_
    exact kv_iret dX12_as_24 rfl (by rw [hS]; exact kOM.no hm hu rfl)
  · have n1 : ¬ kOut p0 0 (a 0 4 - 1) := kIn_y h1
    refine kv_iload_n dX12_as_9 rfl ?_
    refine kv_iconst dX12_as_10 0 ki_0 ?_
    refine kv_iconst dX12_as_11 4 ki_4 ?_
    refine kw_Si [_, _, _] mX12_within dX12_as_12 lX12_78 wX12_within rfl rfl rfl (qX12_within hu _ _ _) (by decide) ?_
    refine kw_bne dX12_as_15 25 (by decide) (fun h2 => ?_) (fun h2 => ?_)
    · have n2 : ¬ kOut p1 0 4 := kIn_y h2
      have hS : kas a p0 p1 = _ := if_neg (fun q => q.elim n1 n2)
      obtain ⟨e, he, rfl⟩ := hg.at (k := 4) rfl n1
      rw [nI_clamp (by omega)] at hS
      refine kv_aload_n dX12_as_25 rfl ?_
      refine kv_iload_n dX12_as_26 rfl ?_
      refine kw_Vpi [_] mX12_kindOf dX12_as_27 lX12_301 wX12_kindOf kC12 hu rfl (by first | rfl | assumption) rfl rfl rfl (qX12_kindOf hu eg hg e he) (by decide) (fun v1 e1 => ?_)
      have hu1 := e1.wd hu
      have E1 := e1
      have eg1 : v1.2.1 414 = a 0 := (E1.row kSM_now).trans eg
      rcases kKind_or (a 0) e with hk | hk | hk | hk
      · rw [hk] at hS ⊢
        refine kv_istore_n (ls2 := [_, _, _, _]) dX12_as_30 rfl rfl rfl rfl ?_
        refine kv_iload_n dX12_as_31 rfl ?_
        refine kv_if_lt dX12_as_32 48 (by decide) (fun h3 => ?_) (fun h3 => ?_)
        · exact absurd h3 (by decide)
        · refine kv_iload_n dX12_as_35 rfl ?_
          refine kv_iload_n dX12_as_36 rfl ?_
          refine kv_icmp_eq dX12_as_37 48 (by decide) (fun h4 => ?_) (fun h4 => ?_)
          · rw [if_pos (show kAnc _ p1 by rw [← h4]; decide)] at hS
            refine kv_iload_n dX12_as_48 rfl ?_
            refine kv_if_ge dX12_as_49 61 (by decide) (fun h5 => ?_) (fun h5 => ?_)
            · refine kv_aload_n dX12_as_61 rfl ?_
              refine kv_iload_n dX12_as_62 rfl ?_
              refine kv_iconst dX12_as_63 2 ki_2 ?_
              refine kw_Vi [_, _] mX12_line dX12_as_64 lX12_292 wX12_line kC12 hu1 rfl (by first | rfl | assumption) rfl rfl rfl (gX12_line hu1 eg1 e 2 (by omega) (by omega)) (by decide) ?_
              exact kv_iret dX12_as_67 rfl (by rw [hS]; first | exact kOM.id hm hu E1 rfl | exact kOM.no_ hm hu E1 rfl)
            · exact absurd h5 (by decide)
          · refine kv_iload_n dX12_as_40 rfl ?_
            refine kw_Si [_] mX12_above dX12_as_41 lX12_304 wX12_above rfl rfl rfl (qX12_above hu1 _) (by decide) ?_
            rw [show kAbove 4 = 3 from rfl]
            refine kv_istore_n (ls2 := [_, _, _, _]) dX12_as_44 rfl rfl rfl rfl ?_
            refine kv_goto dX12_as_45 31 (by decide) ?_
            refine kv_iload_n dX12_as_31 rfl ?_
            refine kv_if_lt dX12_as_32 48 (by decide) (fun h6 => ?_) (fun h6 => ?_)
            · exact absurd h6 (by decide)
            · refine kv_iload_n dX12_as_35 rfl ?_
              refine kv_iload_n dX12_as_36 rfl ?_
              refine kv_icmp_eq dX12_as_37 48 (by decide) (fun h7 => ?_) (fun h7 => ?_)
              · rw [if_pos (show kAnc _ p1 by rw [← h7]; decide)] at hS
                refine kv_iload_n dX12_as_48 rfl ?_
                refine kv_if_ge dX12_as_49 61 (by decide) (fun h8 => ?_) (fun h8 => ?_)
                · refine kv_aload_n dX12_as_61 rfl ?_
                  refine kv_iload_n dX12_as_62 rfl ?_
                  refine kv_iconst dX12_as_63 2 ki_2 ?_
                  refine kw_Vi [_, _] mX12_line dX12_as_64 lX12_292 wX12_line kC12 hu1 rfl (by first | rfl | assumption) rfl rfl rfl (gX12_line hu1 eg1 e 2 (by omega) (by omega)) (by decide) ?_
                  exact kv_iret dX12_as_67 rfl (by rw [hS]; first | exact kOM.id hm hu E1 rfl | exact kOM.no_ hm hu E1 rfl)
                · exact absurd h8 (by decide)
              · refine kv_iload_n dX12_as_40 rfl ?_
                refine kw_Si [_] mX12_above dX12_as_41 lX12_304 wX12_above rfl rfl rfl (qX12_above hu1 _) (by decide) ?_
                rw [show kAbove 3 = 0 from rfl]
                refine kv_istore_n (ls2 := [_, _, _, _]) dX12_as_44 rfl rfl rfl rfl ?_
                refine kv_goto dX12_as_45 31 (by decide) ?_
                refine kv_iload_n dX12_as_31 rfl ?_
                refine kv_if_lt dX12_as_32 48 (by decide) (fun h9 => ?_) (fun h9 => ?_)
                · exact absurd h9 (by decide)
                · refine kv_iload_n dX12_as_35 rfl ?_
                  refine kv_iload_n dX12_as_36 rfl ?_
                  refine kv_icmp_eq dX12_as_37 48 (by decide) (fun h10 => ?_) (fun h10 => ?_)
                  · rw [if_pos (show kAnc _ p1 by rw [← h10]; decide)] at hS
                    refine kv_iload_n dX12_as_48 rfl ?_
                    refine kv_if_ge dX12_as_49 61 (by decide) (fun h11 => ?_) (fun h11 => ?_)
                    · refine kv_aload_n dX12_as_61 rfl ?_
                      refine kv_iload_n dX12_as_62 rfl ?_
                      refine kv_iconst dX12_as_63 2 ki_2 ?_
                      refine kw_Vi [_, _] mX12_line dX12_as_64 lX12_292 wX12_line kC12 hu1 rfl (by first | rfl | assumption) rfl rfl rfl (gX12_line hu1 eg1 e 2 (by omega) (by omega)) (by decide) ?_
                      exact kv_iret dX12_as_67 rfl (by rw [hS]; first | exact kOM.id hm hu E1 rfl | exact kOM.no_ hm hu E1 rfl)
                    · exact absurd h11 (by decide)
                  · refine kv_iload_n dX12_as_40 rfl ?_
                    refine kw_Si [_] mX12_above dX12_as_41 lX12_304 wX12_above rfl rfl rfl (qX12_above hu1 _) (by decide) ?_
                    rw [show kAbove 0 = (-1) from rfl]
                    refine kv_istore_n (ls2 := [_, _, _, _]) dX12_as_44 rfl rfl rfl rfl ?_
                    refine kv_goto dX12_as_45 31 (by decide) ?_
                    refine kv_iload_n dX12_as_31 rfl ?_
                    refine kv_if_lt dX12_as_32 48 (by decide) (fun h12 => ?_) (fun h12 => ?_)
                    · refine kv_iload_n dX12_as_48 rfl ?_
                      refine kv_if_ge dX12_as_49 61 (by decide) (fun h13 => ?_) (fun h13 => ?_)
                      · exact absurd h13 (by decide)
                      · rw [if_neg (fun q => by rcases q with q | q | ⟨q2, q⟩ | ⟨q2, q⟩ <;> first | exact absurd q2 (by decide) | (subst q; contradiction))] at hS
                        refine kv_aload_n dX12_as_52 rfl ?_
                        refine kv_ldc dX12_as_53 kX12_104 ?_
                        refine kw_Vi [_] mX12_finding dX12_as_55 lX12_84 wX12_finding kC12 hu1 rfl (by first | rfl | assumption) rfl rfl rfl (qX12_finding hu1 5 (by decide) (by decide) _ (by decide)) (by decide) ?_
                        refine kv_goto dX12_as_58 67 (by decide) ?_
                        exact kv_iret dX12_as_67 rfl (by rw [hS]; first | exact kOM.id hm hu E1 rfl | exact kOM.no_ hm hu E1 rfl)
                    · exact absurd h12 (by decide)
      · rw [hk] at hS ⊢
        refine kv_istore_n (ls2 := [_, _, _, _]) dX12_as_30 rfl rfl rfl rfl ?_
        refine kv_iload_n dX12_as_31 rfl ?_
        refine kv_if_lt dX12_as_32 48 (by decide) (fun h14 => ?_) (fun h14 => ?_)
        · exact absurd h14 (by decide)
        · refine kv_iload_n dX12_as_35 rfl ?_
          refine kv_iload_n dX12_as_36 rfl ?_
          refine kv_icmp_eq dX12_as_37 48 (by decide) (fun h15 => ?_) (fun h15 => ?_)
          · rw [if_pos (show kAnc _ p1 by rw [← h15]; decide)] at hS
            refine kv_iload_n dX12_as_48 rfl ?_
            refine kv_if_ge dX12_as_49 61 (by decide) (fun h16 => ?_) (fun h16 => ?_)
            · refine kv_aload_n dX12_as_61 rfl ?_
              refine kv_iload_n dX12_as_62 rfl ?_
              refine kv_iconst dX12_as_63 2 ki_2 ?_
              refine kw_Vi [_, _] mX12_line dX12_as_64 lX12_292 wX12_line kC12 hu1 rfl (by first | rfl | assumption) rfl rfl rfl (gX12_line hu1 eg1 e 2 (by omega) (by omega)) (by decide) ?_
              exact kv_iret dX12_as_67 rfl (by rw [hS]; first | exact kOM.id hm hu E1 rfl | exact kOM.no_ hm hu E1 rfl)
            · exact absurd h16 (by decide)
          · refine kv_iload_n dX12_as_40 rfl ?_
            refine kw_Si [_] mX12_above dX12_as_41 lX12_304 wX12_above rfl rfl rfl (qX12_above hu1 _) (by decide) ?_
            rw [show kAbove 3 = 0 from rfl]
            refine kv_istore_n (ls2 := [_, _, _, _]) dX12_as_44 rfl rfl rfl rfl ?_
            refine kv_goto dX12_as_45 31 (by decide) ?_
            refine kv_iload_n dX12_as_31 rfl ?_
            refine kv_if_lt dX12_as_32 48 (by decide) (fun h17 => ?_) (fun h17 => ?_)
            · exact absurd h17 (by decide)
            · refine kv_iload_n dX12_as_35 rfl ?_
              refine kv_iload_n dX12_as_36 rfl ?_
              refine kv_icmp_eq dX12_as_37 48 (by decide) (fun h18 => ?_) (fun h18 => ?_)
              · rw [if_pos (show kAnc _ p1 by rw [← h18]; decide)] at hS
                refine kv_iload_n dX12_as_48 rfl ?_
                refine kv_if_ge dX12_as_49 61 (by decide) (fun h19 => ?_) (fun h19 => ?_)
                · refine kv_aload_n dX12_as_61 rfl ?_
                  refine kv_iload_n dX12_as_62 rfl ?_
                  refine kv_iconst dX12_as_63 2 ki_2 ?_
                  refine kw_Vi [_, _] mX12_line dX12_as_64 lX12_292 wX12_line kC12 hu1 rfl (by first | rfl | assumption) rfl rfl rfl (gX12_line hu1 eg1 e 2 (by omega) (by omega)) (by decide) ?_
                  exact kv_iret dX12_as_67 rfl (by rw [hS]; first | exact kOM.id hm hu E1 rfl | exact kOM.no_ hm hu E1 rfl)
                · exact absurd h19 (by decide)
              · refine kv_iload_n dX12_as_40 rfl ?_
                refine kw_Si [_] mX12_above dX12_as_41 lX12_304 wX12_above rfl rfl rfl (qX12_above hu1 _) (by decide) ?_
                rw [show kAbove 0 = (-1) from rfl]
                refine kv_istore_n (ls2 := [_, _, _, _]) dX12_as_44 rfl rfl rfl rfl ?_
                refine kv_goto dX12_as_45 31 (by decide) ?_
                refine kv_iload_n dX12_as_31 rfl ?_
                refine kv_if_lt dX12_as_32 48 (by decide) (fun h20 => ?_) (fun h20 => ?_)
                · refine kv_iload_n dX12_as_48 rfl ?_
                  refine kv_if_ge dX12_as_49 61 (by decide) (fun h21 => ?_) (fun h21 => ?_)
                  · exact absurd h21 (by decide)
                  · rw [if_neg (fun q => by rcases q with q | q | ⟨q2, q⟩ | ⟨q2, q⟩ <;> first | exact absurd q2 (by decide) | (subst q; contradiction))] at hS
                    refine kv_aload_n dX12_as_52 rfl ?_
                    refine kv_ldc dX12_as_53 kX12_104 ?_
                    refine kw_Vi [_] mX12_finding dX12_as_55 lX12_84 wX12_finding kC12 hu1 rfl (by first | rfl | assumption) rfl rfl rfl (qX12_finding hu1 5 (by decide) (by decide) _ (by decide)) (by decide) ?_
                    refine kv_goto dX12_as_58 67 (by decide) ?_
                    exact kv_iret dX12_as_67 rfl (by rw [hS]; first | exact kOM.id hm hu E1 rfl | exact kOM.no_ hm hu E1 rfl)
                · exact absurd h20 (by decide)
      · rw [hk] at hS ⊢
        refine kv_istore_n (ls2 := [_, _, _, _]) dX12_as_30 rfl rfl rfl rfl ?_
        refine kv_iload_n dX12_as_31 rfl ?_
        refine kv_if_lt dX12_as_32 48 (by decide) (fun h22 => ?_) (fun h22 => ?_)
        · exact absurd h22 (by decide)
        · refine kv_iload_n dX12_as_35 rfl ?_
          refine kv_iload_n dX12_as_36 rfl ?_
          refine kv_icmp_eq dX12_as_37 48 (by decide) (fun h23 => ?_) (fun h23 => ?_)
          · rw [if_pos (show kAnc _ p1 by rw [← h23]; decide)] at hS
            refine kv_iload_n dX12_as_48 rfl ?_
            refine kv_if_ge dX12_as_49 61 (by decide) (fun h24 => ?_) (fun h24 => ?_)
            · refine kv_aload_n dX12_as_61 rfl ?_
              refine kv_iload_n dX12_as_62 rfl ?_
              refine kv_iconst dX12_as_63 2 ki_2 ?_
              refine kw_Vi [_, _] mX12_line dX12_as_64 lX12_292 wX12_line kC12 hu1 rfl (by first | rfl | assumption) rfl rfl rfl (gX12_line hu1 eg1 e 2 (by omega) (by omega)) (by decide) ?_
              exact kv_iret dX12_as_67 rfl (by rw [hS]; first | exact kOM.id hm hu E1 rfl | exact kOM.no_ hm hu E1 rfl)
            · exact absurd h24 (by decide)
          · refine kv_iload_n dX12_as_40 rfl ?_
            refine kw_Si [_] mX12_above dX12_as_41 lX12_304 wX12_above rfl rfl rfl (qX12_above hu1 _) (by decide) ?_
            rw [show kAbove 2 = 1 from rfl]
            refine kv_istore_n (ls2 := [_, _, _, _]) dX12_as_44 rfl rfl rfl rfl ?_
            refine kv_goto dX12_as_45 31 (by decide) ?_
            refine kv_iload_n dX12_as_31 rfl ?_
            refine kv_if_lt dX12_as_32 48 (by decide) (fun h25 => ?_) (fun h25 => ?_)
            · exact absurd h25 (by decide)
            · refine kv_iload_n dX12_as_35 rfl ?_
              refine kv_iload_n dX12_as_36 rfl ?_
              refine kv_icmp_eq dX12_as_37 48 (by decide) (fun h26 => ?_) (fun h26 => ?_)
              · rw [if_pos (show kAnc _ p1 by rw [← h26]; decide)] at hS
                refine kv_iload_n dX12_as_48 rfl ?_
                refine kv_if_ge dX12_as_49 61 (by decide) (fun h27 => ?_) (fun h27 => ?_)
                · refine kv_aload_n dX12_as_61 rfl ?_
                  refine kv_iload_n dX12_as_62 rfl ?_
                  refine kv_iconst dX12_as_63 2 ki_2 ?_
                  refine kw_Vi [_, _] mX12_line dX12_as_64 lX12_292 wX12_line kC12 hu1 rfl (by first | rfl | assumption) rfl rfl rfl (gX12_line hu1 eg1 e 2 (by omega) (by omega)) (by decide) ?_
                  exact kv_iret dX12_as_67 rfl (by rw [hS]; first | exact kOM.id hm hu E1 rfl | exact kOM.no_ hm hu E1 rfl)
                · exact absurd h27 (by decide)
              · refine kv_iload_n dX12_as_40 rfl ?_
                refine kw_Si [_] mX12_above dX12_as_41 lX12_304 wX12_above rfl rfl rfl (qX12_above hu1 _) (by decide) ?_
                rw [show kAbove 1 = 0 from rfl]
                refine kv_istore_n (ls2 := [_, _, _, _]) dX12_as_44 rfl rfl rfl rfl ?_
                refine kv_goto dX12_as_45 31 (by decide) ?_
                refine kv_iload_n dX12_as_31 rfl ?_
                refine kv_if_lt dX12_as_32 48 (by decide) (fun h28 => ?_) (fun h28 => ?_)
                · exact absurd h28 (by decide)
                · refine kv_iload_n dX12_as_35 rfl ?_
                  refine kv_iload_n dX12_as_36 rfl ?_
                  refine kv_icmp_eq dX12_as_37 48 (by decide) (fun h29 => ?_) (fun h29 => ?_)
                  · rw [if_pos (show kAnc _ p1 by rw [← h29]; decide)] at hS
                    refine kv_iload_n dX12_as_48 rfl ?_
                    refine kv_if_ge dX12_as_49 61 (by decide) (fun h30 => ?_) (fun h30 => ?_)
                    · refine kv_aload_n dX12_as_61 rfl ?_
                      refine kv_iload_n dX12_as_62 rfl ?_
                      refine kv_iconst dX12_as_63 2 ki_2 ?_
                      refine kw_Vi [_, _] mX12_line dX12_as_64 lX12_292 wX12_line kC12 hu1 rfl (by first | rfl | assumption) rfl rfl rfl (gX12_line hu1 eg1 e 2 (by omega) (by omega)) (by decide) ?_
                      exact kv_iret dX12_as_67 rfl (by rw [hS]; first | exact kOM.id hm hu E1 rfl | exact kOM.no_ hm hu E1 rfl)
                    · exact absurd h30 (by decide)
                  · refine kv_iload_n dX12_as_40 rfl ?_
                    refine kw_Si [_] mX12_above dX12_as_41 lX12_304 wX12_above rfl rfl rfl (qX12_above hu1 _) (by decide) ?_
                    rw [show kAbove 0 = (-1) from rfl]
                    refine kv_istore_n (ls2 := [_, _, _, _]) dX12_as_44 rfl rfl rfl rfl ?_
                    refine kv_goto dX12_as_45 31 (by decide) ?_
                    refine kv_iload_n dX12_as_31 rfl ?_
                    refine kv_if_lt dX12_as_32 48 (by decide) (fun h31 => ?_) (fun h31 => ?_)
                    · refine kv_iload_n dX12_as_48 rfl ?_
                      refine kv_if_ge dX12_as_49 61 (by decide) (fun h32 => ?_) (fun h32 => ?_)
                      · exact absurd h32 (by decide)
                      · rw [if_neg (fun q => by rcases q with q | q | ⟨q2, q⟩ | ⟨q2, q⟩ <;> first | exact absurd q2 (by decide) | (subst q; contradiction))] at hS
                        refine kv_aload_n dX12_as_52 rfl ?_
                        refine kv_ldc dX12_as_53 kX12_104 ?_
                        refine kw_Vi [_] mX12_finding dX12_as_55 lX12_84 wX12_finding kC12 hu1 rfl (by first | rfl | assumption) rfl rfl rfl (qX12_finding hu1 5 (by decide) (by decide) _ (by decide)) (by decide) ?_
                        refine kv_goto dX12_as_58 67 (by decide) ?_
                        exact kv_iret dX12_as_67 rfl (by rw [hS]; first | exact kOM.id hm hu E1 rfl | exact kOM.no_ hm hu E1 rfl)
                    · exact absurd h31 (by decide)
      · rw [hk] at hS ⊢
        refine kv_istore_n (ls2 := [_, _, _, _]) dX12_as_30 rfl rfl rfl rfl ?_
        refine kv_iload_n dX12_as_31 rfl ?_
        refine kv_if_lt dX12_as_32 48 (by decide) (fun h33 => ?_) (fun h33 => ?_)
        · exact absurd h33 (by decide)
        · refine kv_iload_n dX12_as_35 rfl ?_
          refine kv_iload_n dX12_as_36 rfl ?_
          refine kv_icmp_eq dX12_as_37 48 (by decide) (fun h34 => ?_) (fun h34 => ?_)
          · rw [if_pos (show kAnc _ p1 by rw [← h34]; decide)] at hS
            refine kv_iload_n dX12_as_48 rfl ?_
            refine kv_if_ge dX12_as_49 61 (by decide) (fun h35 => ?_) (fun h35 => ?_)
            · refine kv_aload_n dX12_as_61 rfl ?_
              refine kv_iload_n dX12_as_62 rfl ?_
              refine kv_iconst dX12_as_63 2 ki_2 ?_
              refine kw_Vi [_, _] mX12_line dX12_as_64 lX12_292 wX12_line kC12 hu1 rfl (by first | rfl | assumption) rfl rfl rfl (gX12_line hu1 eg1 e 2 (by omega) (by omega)) (by decide) ?_
              exact kv_iret dX12_as_67 rfl (by rw [hS]; first | exact kOM.id hm hu E1 rfl | exact kOM.no_ hm hu E1 rfl)
            · exact absurd h35 (by decide)
          · refine kv_iload_n dX12_as_40 rfl ?_
            refine kw_Si [_] mX12_above dX12_as_41 lX12_304 wX12_above rfl rfl rfl (qX12_above hu1 _) (by decide) ?_
            rw [show kAbove 1 = 0 from rfl]
            refine kv_istore_n (ls2 := [_, _, _, _]) dX12_as_44 rfl rfl rfl rfl ?_
            refine kv_goto dX12_as_45 31 (by decide) ?_
            refine kv_iload_n dX12_as_31 rfl ?_
            refine kv_if_lt dX12_as_32 48 (by decide) (fun h36 => ?_) (fun h36 => ?_)
            · exact absurd h36 (by decide)
            · refine kv_iload_n dX12_as_35 rfl ?_
              refine kv_iload_n dX12_as_36 rfl ?_
              refine kv_icmp_eq dX12_as_37 48 (by decide) (fun h37 => ?_) (fun h37 => ?_)
              · rw [if_pos (show kAnc _ p1 by rw [← h37]; decide)] at hS
                refine kv_iload_n dX12_as_48 rfl ?_
                refine kv_if_ge dX12_as_49 61 (by decide) (fun h38 => ?_) (fun h38 => ?_)
                · refine kv_aload_n dX12_as_61 rfl ?_
                  refine kv_iload_n dX12_as_62 rfl ?_
                  refine kv_iconst dX12_as_63 2 ki_2 ?_
                  refine kw_Vi [_, _] mX12_line dX12_as_64 lX12_292 wX12_line kC12 hu1 rfl (by first | rfl | assumption) rfl rfl rfl (gX12_line hu1 eg1 e 2 (by omega) (by omega)) (by decide) ?_
                  exact kv_iret dX12_as_67 rfl (by rw [hS]; first | exact kOM.id hm hu E1 rfl | exact kOM.no_ hm hu E1 rfl)
                · exact absurd h38 (by decide)
              · refine kv_iload_n dX12_as_40 rfl ?_
                refine kw_Si [_] mX12_above dX12_as_41 lX12_304 wX12_above rfl rfl rfl (qX12_above hu1 _) (by decide) ?_
                rw [show kAbove 0 = (-1) from rfl]
                refine kv_istore_n (ls2 := [_, _, _, _]) dX12_as_44 rfl rfl rfl rfl ?_
                refine kv_goto dX12_as_45 31 (by decide) ?_
                refine kv_iload_n dX12_as_31 rfl ?_
                refine kv_if_lt dX12_as_32 48 (by decide) (fun h39 => ?_) (fun h39 => ?_)
                · refine kv_iload_n dX12_as_48 rfl ?_
                  refine kv_if_ge dX12_as_49 61 (by decide) (fun h40 => ?_) (fun h40 => ?_)
                  · exact absurd h40 (by decide)
                  · rw [if_neg (fun q => by rcases q with q | q | ⟨q2, q⟩ | ⟨q2, q⟩ <;> first | exact absurd q2 (by decide) | (subst q; contradiction))] at hS
                    refine kv_aload_n dX12_as_52 rfl ?_
                    refine kv_ldc dX12_as_53 kX12_104 ?_
                    refine kw_Vi [_] mX12_finding dX12_as_55 lX12_84 wX12_finding kC12 hu1 rfl (by first | rfl | assumption) rfl rfl rfl (qX12_finding hu1 5 (by decide) (by decide) _ (by decide)) (by decide) ?_
                    refine kv_goto dX12_as_58 67 (by decide) ?_
                    exact kv_iret dX12_as_67 rfl (by rw [hS]; first | exact kOM.id hm hu E1 rfl | exact kOM.no_ hm hu E1 rfl)
                · exact absurd h39 (by decide)
    · have hS : kas a p0 p1 = (-1000001, kF a 1) := if_pos (Or.inr (kIn_n h2))
      refine kv_aload_n dX12_as_18 rfl ?_
      refine kv_ldc dX12_as_19 kX12_83 ?_
      refine kw_Vi [_] mX12_finding dX12_as_21 lX12_84 wX12_finding kC12 hu rfl (by first | rfl | assumption) rfl rfl rfl (qX12_finding hu 1 (by decide) (by decide) _ (by decide)) (by decide) ?_
      exact kv_iret dX12_as_24 rfl (by rw [hS]; exact kOM.no hm hu rfl)

theorem kas_ok {a : KA} (ho : kOk a) (p0 p1 : Int32) : kOk (kas a p0 p1).2 := by
  unfold kas
  split
  · exact ho.fnd 1
  · split
    · exact ho
    · exact ho.fnd 5
set_option maxRecDepth 20000 in
set_option maxHeartbeats 4000000 in
theorem qX11_late {w : KW} {l : Launch} {u : KMem} (hu : kWd u) {a : KA} (hx : kRX a u) (ho : kOk a) (p0 p1 : Int32) : KC w l mX11_late 2 0 0 [.ref 0, .int p0, .int p1] u (kOX u (klate a p0 p1).1 (klate a p0 p1).2) := by
  have hr := hx.1
  have hg := ho.1
  have hx20 := (hg.cnt (k := 2) rfl).2
  have hc30 := (hg.cnt (k := 0) rfl).2
  have ht10 := (hg.cnt (k := 3) rfl).2
  have he40 := (hg.cnt (k := 4) rfl).2
  have hs16 := hg.cnt (k := 1) rfl
  refine KC.of (ls := [_, _, _, _, _, _, _]) rfl rfl (Nat.le_of_ble_eq_true rfl) ?_
  refine kv_aload_n dX11_late_0 rfl ?_
  refine kv_iload_n dX11_late_1 rfl ?_
  refine kw_Vi [_] mX11_noEntry dX11_late_2 lX11_273 wX11_noEntry kC11 hu rfl (by first | rfl | assumption) rfl rfl rfl (qX11_noEntry hu _) (by decide) ?_
  refine kw_bne dX11_late_5 19 (by decide) (fun h1 => ?_) (fun h1 => ?_)
  · rw [hr.n4] at h1
    have hS : klate a p0 p1 = (-1000001, kF a 1) := if_pos (Or.inl h1)
    refine kv_aload_n dX11_late_19 rfl ?_
    refine kv_ldc dX11_late_20 kX11_74 ?_
    refine kw_Vi [_] mX11_refuse dX11_late_22 lX11_75 wX11_refuse kC11 hu rfl (by first | rfl | assumption) rfl rfl rfl (qX11_refuse hu 1 (by decide) (by decide) _ (by decide)) (by decide) ?_
    exact kv_iret dX11_late_25 rfl (by rw [hS]; exact kOX.no hx ho hu (by decide) rfl)
  · rw [hr.n4] at h1
    have n1 : ¬ kOut p0 0 (a 0 4 - 1) := h1
    refine kv_iload_n dX11_late_8 rfl ?_
    refine kv_iconst dX11_late_9 0 ki_0 ?_
    refine kv_sipush dX11_late_10 999 kz_999 ?_
    refine kw_Si [_, _, _] mX11_outside dX11_late_13 lX11_69 wX11_outside rfl rfl rfl (qX11_outside hu _ _ _) (by decide) ?_
    refine kw_beq dX11_late_16 26 (by decide) (fun h2 => ?_) (fun h2 => ?_)
    · have n2 : ¬ kOut p1 0 999 := h2
      have hS : klate a p0 p1 = _ := if_neg (fun q => q.elim n1 n2)
      obtain ⟨e, he, rfl⟩ := hg.at (k := 4) rfl n1
      rw [nI_clamp (by omega)] at hS
      have ke := ks_entry e (by omega)
      have ke1 := ke.1
      have ke2 := ke.2
      refine kv_aload_n dX11_late_26 rfl ?_
      refine kw_gR dX11_late_27 fX11_12 hu (by first | rfl | assumption) rfl rfl (by first | rfl | assumption) ?_
      refine kw_gR dX11_late_30 fX11_259 hu (by first | rfl | assumption) rfl rfl (by first | rfl | assumption) ?_
      refine kv_iload_n dX11_late_33 rfl ?_
      refine kw_al (t := 3) (n := 40) dX11_late_34 hu rfl rfl (e) rfl (by omega) rfl (by first | rfl | assumption) ?_
      refine kv_astore_n (ls2 := [_, _, _, _, _, _, _]) dX11_late_35 rfl rfl rfl rfl ?_
      refine kv_iconst dX11_late_36 0 ki_0 ?_
      refine kv_iload_n dX11_late_37 rfl ?_
      refine kv_aload_n dX11_late_38 rfl ?_
      refine kw_gI dX11_late_39 fX11_288 hu (by first | rfl | assumption) rfl rfl ?_
      rw [hr.ent he 4 (by omega)]
      refine kv_isub dX11_late_42 ?_
      refine kv_bipush dX11_late_43 30 kb_30 ?_
      refine kv_isub dX11_late_45 ?_
      refine kw_mmax dX11_late_46 lX11_299 rfl (by omega) ?_
      refine kv_istore (ls2 := [_, _, _, _, _, _, _]) dX11_late_49 rfl rfl rfl rfl ?_
      refine kv_aload_n dX11_late_51 rfl ?_
      refine kw_gI dX11_late_52 fX11_282 hu (by first | rfl | assumption) rfl rfl ?_
      rw [hr.ent he 2 (by omega)]
      refine kv_i2l dX11_late_55 ?_
      refine kv_aload_n dX11_late_56 rfl ?_
      refine kw_gR dX11_late_57 fX11_12 hu (by first | rfl | assumption) rfl rfl (by first | rfl | assumption) ?_
      refine kw_gR dX11_late_60 fX11_190 hu (by first | rfl | assumption) rfl rfl (by first | rfl | assumption) ?_
      refine kv_bipush dX11_late_63 6 kb_6 ?_
      refine kw_il dX11_late_65 hu (by first | rfl | assumption) (6) rfl (by omega) rfl ?_
      rw [hr.rate 6 (by omega)]
      refine kv_i2l dX11_late_66 ?_
      refine kv_lmul dX11_late_67 ?_
      refine kv_iload dX11_late_68 rfl ?_
      refine kv_i2l dX11_late_70 ?_
      refine kv_lmul dX11_late_71 ?_
      refine kv_ldc2 dX11_late_72 kX11_304 ?_
      refine kv_ldiv dX11_late_75 (by decide) ?_
      rw [show 8 + 6 = 14 from rfl, kLate_x]
      refine kv_lstore (ls2 := [_, _, _, _, _, _, _]) dX11_late_76 rfl rfl rfl rfl ?_
      refine kv_lload dX11_late_78 rfl ?_
      refine kv_ldc2 dX11_late_80 kX11_306 ?_
      refine kw_mmin_long dX11_late_83 lX11_308 rfl (by omega) ?_
      rw [kMinL]
      refine kv_l2i dX11_late_86 ?_
      exact kv_iret dX11_late_87 rfl (by rw [hS]; exact kOX.id hx ho hu kEq.rf rfl)
    · have hS : klate a p0 p1 = (-1000001, kF a 1) := if_pos (Or.inr h2)
      refine kv_aload_n dX11_late_19 rfl ?_
      refine kv_ldc dX11_late_20 kX11_74 ?_
      refine kw_Vi [_] mX11_refuse dX11_late_22 lX11_75 wX11_refuse kC11 hu rfl (by first | rfl | assumption) rfl rfl rfl (qX11_refuse hu 1 (by decide) (by decide) _ (by decide)) (by decide) ?_
      exact kv_iret dX11_late_25 rfl (by rw [hS]; exact kOX.no hx ho hu (by decide) rfl)

set_option maxRecDepth 20000 in
set_option maxHeartbeats 4000000 in
theorem qX12_late {w : KW} {l : Launch} {u : KMem} (hu : kWd u) {a : KA} (hm : kRM a u) (ho : kOk a) (p0 p1 : Int32) : KC w l mX12_late 2 0 0 [.ref 413, .int p0, .int p1] u (kOM u (klate a p0 p1).1 (klate a p0 p1).2) := by
  have eg := hm.1
  have hg := ho.1
  have hx20 := (hg.cnt (k := 2) rfl).2
  have hc30 := (hg.cnt (k := 0) rfl).2
  have ht10 := (hg.cnt (k := 3) rfl).2
  have he40 := (hg.cnt (k := 4) rfl).2
  have hs16 := hg.cnt (k := 1) rfl
  refine KC.of (ls := [_, _, _, _, _]) rfl rfl (Nat.le_of_ble_eq_true rfl) ?_
  refine kv_aload_n dX12_late_0 rfl ?_
  refine kv_iload_n dX12_late_1 rfl ?_
  refine kv_iconst dX12_late_2 4 ki_4 ?_
  refine kw_Vi [_, _] mX12_is dX12_late_3 lX12_93 wX12_is kC12 hu rfl (by first | rfl | assumption) rfl rfl rfl (gX12_is hu eg _ 4 (by omega)) (by decide) ?_
  refine kw_beq dX12_late_6 20 (by decide) (fun h1 => ?_) (fun h1 => ?_)
  · have hS : klate a p0 p1 = (-1000001, kF a 1) := if_pos (Or.inl (kIn_n h1))
    refine kv_aload_n dX12_late_20 rfl ?_
    refine kv_ldc dX12_late_21 kX12_83 ?_
    refine kw_Vi [_] mX12_finding dX12_late_23 lX12_84 wX12_finding kC12 hu rfl (by first | rfl | assumption) rfl rfl rfl (qX12_finding hu 1 (by decide) (by decide) _ (by decide)) (by decide) ?_
    exact kv_iret dX12_late_26 rfl (by rw [hS]; exact kOM.no hm hu rfl)
  · have n1 : ¬ kOut p0 0 (a 0 4 - 1) := kIn_y h1
    refine kv_iload_n dX12_late_9 rfl ?_
    refine kv_iconst dX12_late_10 0 ki_0 ?_
    refine kv_sipush dX12_late_11 999 kz_999 ?_
    refine kw_Si [_, _, _] mX12_within dX12_late_14 lX12_78 wX12_within rfl rfl rfl (qX12_within hu _ _ _) (by decide) ?_
    refine kw_bne dX12_late_17 27 (by decide) (fun h2 => ?_) (fun h2 => ?_)
    · have n2 : ¬ kOut p1 0 999 := kIn_y h2
      have hS : klate a p0 p1 = _ := if_neg (fun q => q.elim n1 n2)
      obtain ⟨e, he, rfl⟩ := hg.at (k := 4) rfl n1
      rw [nI_clamp (by omega)] at hS
      refine kv_iconst dX12_late_27 0 ki_0 ?_
      refine kv_iload_n dX12_late_28 rfl ?_
      refine kv_aload_n dX12_late_29 rfl ?_
      refine kv_iload_n dX12_late_30 rfl ?_
      refine kv_iconst dX12_late_31 4 ki_4 ?_
      refine kw_Vi [_, _] mX12_line dX12_late_32 lX12_292 wX12_line kC12 hu rfl (by first | rfl | assumption) rfl rfl rfl (gX12_line hu eg e 4 (by omega) (by omega)) (by decide) ?_
      refine kv_isub dX12_late_35 ?_
      refine kv_bipush dX12_late_36 30 kb_30 ?_
      refine kv_isub dX12_late_38 ?_
      refine kw_mmax dX12_late_39 lX12_136 rfl (by omega) ?_
      refine kv_i2l dX12_late_42 ?_
      refine kv_lstore_n (ls2 := [_, _, _, _, _]) dX12_late_43 rfl rfl rfl rfl ?_
      refine kv_ldc2 dX12_late_44 kX12_307 ?_
      refine kv_lload_n dX12_late_47 rfl ?_
      refine kv_aload_n dX12_late_48 rfl ?_
      refine kw_gR dX12_late_49 fX12_9 hu (by first | rfl | assumption) rfl rfl (by first | rfl | assumption) ?_
      refine kv_bipush dX12_late_52 14 kb_14 ?_
      refine kw_ig dX12_late_54 hu eg rfl (_) (show (14 : Int32) = nI 14 from rfl) (by omega) rfl ?_
      refine kv_i2l dX12_late_55 ?_
      refine kv_lmul dX12_late_56 ?_
      refine kv_aload_n dX12_late_57 rfl ?_
      refine kv_iload_n dX12_late_58 rfl ?_
      refine kv_iconst dX12_late_59 2 ki_2 ?_
      refine kw_Vi [_, _] mX12_line dX12_late_60 lX12_292 wX12_line kC12 hu rfl (by first | rfl | assumption) rfl rfl rfl (gX12_line hu eg e 2 (by omega) (by omega)) (by decide) ?_
      refine kv_i2l dX12_late_63 ?_
      refine kv_lmul dX12_late_64 ?_
      refine kv_ldc2 dX12_late_65 kX12_309 ?_
      refine kv_ldiv dX12_late_68 (by decide) ?_
      refine kw_mmin_long dX12_late_69 lX12_311 rfl (by omega) ?_
      refine kv_l2i dX12_late_72 ?_
      exact kv_iret dX12_late_73 rfl (by rw [hS]; exact kOM.id hm hu kEq.rf rfl)
    · have hS : klate a p0 p1 = (-1000001, kF a 1) := if_pos (Or.inr (kIn_n h2))
      refine kv_aload_n dX12_late_20 rfl ?_
      refine kv_ldc dX12_late_21 kX12_83 ?_
      refine kw_Vi [_] mX12_finding dX12_late_23 lX12_84 wX12_finding kC12 hu rfl (by first | rfl | assumption) rfl rfl rfl (qX12_finding hu 1 (by decide) (by decide) _ (by decide)) (by decide) ?_
      exact kv_iret dX12_late_26 rfl (by rw [hS]; exact kOM.no hm hu rfl)

theorem klate_ok {a : KA} (ho : kOk a) (p0 p1 : Int32) : kOk (klate a p0 p1).2 := by
  unfold klate
  split
  · exact ho.fnd 1
  · exact ho
set_option maxRecDepth 20000 in
set_option maxHeartbeats 4000000 in
theorem qX7_entriesThatCount {w : KW} {l : Launch} {u : KMem} (hu : kWd u) {g : Nat → Int32} (hr : kRS 1 g u) (hg : kGI g) : KC w l mX7_entriesThatCount 0 0 0 [.ref 1] u (kq (some (.int (kCn g (kN g 4)))) u) := by
  have hw := hg.cnt (k := 4) rfl
  refine KC.of (ls := [_, _, _]) rfl rfl (Nat.le_of_ble_eq_true rfl) ?_
  refine kv_iconst dX7_entriesThatCount_0 0 ki_0 ?_
  refine kv_istore_n (ls2 := [_, _, _]) dX7_entriesThatCount_1 rfl rfl rfl rfl ?_
  refine kv_iconst dX7_entriesThatCount_2 0 ki_0 ?_
  refine kv_istore_n (ls2 := [_, _, _]) dX7_entriesThatCount_3 rfl rfl rfl rfl ?_
  refine KV.loc (ls2 := [some (.ref 1), some (.int (kCn g 0)), some (.int (nI 0))]) ?_ (ksS (by first | rfl | exact congrArg (fun z => some (Value.int z)) (kCn_y (by assumption)) | exact congrArg (fun z => some (Value.int z)) ((Int32.add_zero _).symm.trans (kCn_n (by assumption)))) (ksS (by first | rfl | exact congrArg (fun z => some (Value.int z)) (kCn_y (by assumption)) | exact congrArg (fun z => some (Value.int z)) ((Int32.add_zero _).symm.trans (kCn_n (by assumption)))) (ksS (by first | rfl | exact congrArg (fun z => some (Value.int z)) (kCn_y (by assumption)) | exact congrArg (fun z => some (Value.int z)) ((Int32.add_zero _).symm.trans (kCn_n (by assumption)))) ksN)))
  refine kn_loop (P := fun i => KV w l mX7_entriesThatCount 0 0 0 4 [some (.ref 1), some (.int (kCn g i)), some (.int (nI i))] [] u (kq (some (.int (kCn g (kN g 4)))) u)) (kN g 4) ?_ (fun i hi ih => ?_)
  · refine kv_iload_n dX7_entriesThatCount_4 rfl ?_
    refine kv_aload_n dX7_entriesThatCount_5 rfl ?_
    refine kw_gI dX7_entriesThatCount_6 fX7_96 hu (by first | rfl | assumption) rfl rfl ?_
    rw [hr.n4, hw.1]
    refine kv_icmp_ge dX7_entriesThatCount_9 34 (by decide) (fun h1 => ?_) (fun h1 => ?_)
    · refine kv_iload_n dX7_entriesThatCount_34 rfl ?_
      exact kv_iret dX7_entriesThatCount_35 rfl ⟨rfl, rfl⟩
    · exact absurd h1 (fun q => q (Int32.le_refl _))
  · have ke := ks_entry i (by omega)
    have ke1 := ke.1
    have ke2 := ke.2
    refine kv_iload_n dX7_entriesThatCount_4 rfl ?_
    refine kv_aload_n dX7_entriesThatCount_5 rfl ?_
    refine kw_gI dX7_entriesThatCount_6 fX7_96 hu (by first | rfl | assumption) rfl rfl ?_
    rw [hr.n4, hw.1]
    refine kv_icmp_ge dX7_entriesThatCount_9 34 (by decide) (fun h2 => ?_) (fun h2 => ?_)
    · exact absurd h2 (kn_ge hi (by omega))
    · refine kv_aload_n dX7_entriesThatCount_12 rfl ?_
      refine kw_gR dX7_entriesThatCount_13 fX7_41 hu (by first | rfl | assumption) rfl rfl (by first | rfl | assumption) ?_
      refine kv_iload_n dX7_entriesThatCount_16 rfl ?_
      refine kw_al (t := 3) (n := 40) dX7_entriesThatCount_17 hu rfl rfl (i) rfl (by omega) rfl (by first | rfl | assumption) ?_
      refine kw_gI dX7_entriesThatCount_18 fX7_123 hu (by first | rfl | assumption) rfl rfl ?_
      rw [hr.efst hi]
      refine kv_iload_n dX7_entriesThatCount_21 rfl ?_
      refine kv_icmp_ne dX7_entriesThatCount_22 28 (by decide) (fun h3 => ?_) (fun h3 => ?_)
      · refine kv_iinc (ls2 := [_, _, _]) dX7_entriesThatCount_28 (nI (i + 1)) rfl (kv_inc1 i) rfl rfl rfl rfl ?_
        refine kv_goto dX7_entriesThatCount_31 4 (by decide) ?_
        exact KV.loc ih (ksS (by first | rfl | exact congrArg (fun z => some (Value.int z)) (kCn_y (by assumption)) | exact congrArg (fun z => some (Value.int z)) ((Int32.add_zero _).symm.trans (kCn_n (by assumption)))) (ksS (by first | rfl | exact congrArg (fun z => some (Value.int z)) (kCn_y (by assumption)) | exact congrArg (fun z => some (Value.int z)) ((Int32.add_zero _).symm.trans (kCn_n (by assumption)))) (ksS (by first | rfl | exact congrArg (fun z => some (Value.int z)) (kCn_y (by assumption)) | exact congrArg (fun z => some (Value.int z)) ((Int32.add_zero _).symm.trans (kCn_n (by assumption)))) ksN)))
      · refine kv_iinc (ls2 := [_, _, _]) dX7_entriesThatCount_25 _ rfl rfl rfl rfl rfl rfl ?_
        refine kv_iinc (ls2 := [_, _, _]) dX7_entriesThatCount_28 (nI (i + 1)) rfl (kv_inc1 i) rfl rfl rfl rfl ?_
        refine kv_goto dX7_entriesThatCount_31 4 (by decide) ?_
        exact KV.loc ih (ksS (by first | rfl | exact congrArg (fun z => some (Value.int z)) (kCn_y (by assumption)) | exact congrArg (fun z => some (Value.int z)) ((Int32.add_zero _).symm.trans (kCn_n (by assumption)))) (ksS (by first | rfl | exact congrArg (fun z => some (Value.int z)) (kCn_y (by assumption)) | exact congrArg (fun z => some (Value.int z)) ((Int32.add_zero _).symm.trans (kCn_n (by assumption)))) (ksS (by first | rfl | exact congrArg (fun z => some (Value.int z)) (kCn_y (by assumption)) | exact congrArg (fun z => some (Value.int z)) ((Int32.add_zero _).symm.trans (kCn_n (by assumption)))) ksN)))

set_option maxRecDepth 20000 in
set_option maxHeartbeats 4000000 in
theorem qX11_count {w : KW} {l : Launch} {u : KMem} (hu : kWd u) {a : KA} (hx : kRX a u) (ho : kOk a) (p0 : Int32) : KC w l mX11_count 1 0 0 [.ref 0, .int p0] u (kOX u (kcount a p0).1 (kcount a p0).2) := by
  have hr := hx.1
  have hg := ho.1
  have hx20 := (hg.cnt (k := 2) rfl).2
  have hc30 := (hg.cnt (k := 0) rfl).2
  have ht10 := (hg.cnt (k := 3) rfl).2
  have he40 := (hg.cnt (k := 4) rfl).2
  have hs16 := hg.cnt (k := 1) rfl
  refine KC.of (ls := [_, _]) rfl rfl (Nat.le_of_ble_eq_true rfl) ?_
  refine kv_iload_n dX11_count_0 rfl ?_
  by_cases h1 : p0.toInt < 0 ∨ 8 < p0.toInt
  · refine kv_tableOut dX11_count_1 124 h1 (by decide) ?_
    have hS : kcount a p0 = (-1000001, kF a 1) := if_pos (kOut_t (n := 8) (by omega) (by assumption))
    refine kv_aload_n dX11_count_124 rfl ?_
    refine kv_ldc dX11_count_125 kX11_74 ?_
    refine kw_Vi [_] mX11_refuse dX11_count_127 lX11_75 wX11_refuse kC11 hu rfl (by first | rfl | assumption) rfl rfl rfl (qX11_refuse hu 1 (by decide) (by decide) _ (by decide)) (by decide) ?_
    exact kv_iret dX11_count_130 rfl (by rw [hS]; exact kOX.no hx ho hu (by decide) rfl)
  · rcases (show p0.toInt = 0 ∨ p0.toInt = 1 ∨ p0.toInt = 2 ∨ p0.toInt = 3 ∨ p0.toInt = 4 ∨ p0.toInt = 5 ∨ p0.toInt = 6 ∨ p0.toInt = 7 ∨ p0.toInt = 8 by omega) with hv | hv | hv | hv | hv | hv | hv | hv | hv
    · obtain rfl : p0 = 0 := kn_i32 (by rw [hv]; decide)
      refine kv_tableIn dX11_count_1 52 (by decide) (by decide) rfl (by decide) ?_
      have hS : kcount a 0 = _ := if_neg (by decide)
      refine kv_aload_n dX11_count_52 rfl ?_
      refine kw_gR dX11_count_53 fX11_12 hu (by first | rfl | assumption) rfl rfl (by first | rfl | assumption) ?_
      refine kw_gI dX11_count_56 fX11_79 hu (by first | rfl | assumption) rfl rfl ?_
      rw [hr.n0]
      exact kv_iret dX11_count_59 rfl (by rw [hS]; exact kOX.id hx ho hu kEq.rf rfl)
    · obtain rfl : p0 = 1 := kn_i32 (by rw [hv]; decide)
      refine kv_tableIn dX11_count_1 60 (by decide) (by decide) rfl (by decide) ?_
      have hS : kcount a 1 = _ := if_neg (by decide)
      refine kv_aload_n dX11_count_60 rfl ?_
      refine kw_gR dX11_count_61 fX11_12 hu (by first | rfl | assumption) rfl rfl (by first | rfl | assumption) ?_
      refine kw_gI dX11_count_64 fX11_121 hu (by first | rfl | assumption) rfl rfl ?_
      rw [hr.n1]
      exact kv_iret dX11_count_67 rfl (by rw [hS]; exact kOX.id hx ho hu kEq.rf rfl)
    · obtain rfl : p0 = 2 := kn_i32 (by rw [hv]; decide)
      refine kv_tableIn dX11_count_1 68 (by decide) (by decide) rfl (by decide) ?_
      have hS : kcount a 2 = _ := if_neg (by decide)
      refine kv_aload_n dX11_count_68 rfl ?_
      refine kw_gR dX11_count_69 fX11_12 hu (by first | rfl | assumption) rfl rfl (by first | rfl | assumption) ?_
      refine kw_gI dX11_count_72 fX11_134 hu (by first | rfl | assumption) rfl rfl ?_
      rw [hr.n2]
      exact kv_iret dX11_count_75 rfl (by rw [hS]; exact kOX.id hx ho hu kEq.rf rfl)
    · obtain rfl : p0 = 3 := kn_i32 (by rw [hv]; decide)
      refine kv_tableIn dX11_count_1 76 (by decide) (by decide) rfl (by decide) ?_
      have hS : kcount a 3 = _ := if_neg (by decide)
      refine kv_aload_n dX11_count_76 rfl ?_
      refine kw_gR dX11_count_77 fX11_12 hu (by first | rfl | assumption) rfl rfl (by first | rfl | assumption) ?_
      refine kw_gI dX11_count_80 fX11_228 hu (by first | rfl | assumption) rfl rfl ?_
      rw [hr.n3]
      exact kv_iret dX11_count_83 rfl (by rw [hS]; exact kOX.id hx ho hu kEq.rf rfl)
    · obtain rfl : p0 = 4 := kn_i32 (by rw [hv]; decide)
      refine kv_tableIn dX11_count_1 84 (by decide) (by decide) rfl (by decide) ?_
      have hS : kcount a 4 = _ := if_neg (by decide)
      refine kv_aload_n dX11_count_84 rfl ?_
      refine kw_gR dX11_count_85 fX11_12 hu (by first | rfl | assumption) rfl rfl (by first | rfl | assumption) ?_
      refine kw_gI dX11_count_88 fX11_256 hu (by first | rfl | assumption) rfl rfl ?_
      rw [hr.n4]
      exact kv_iret dX11_count_91 rfl (by rw [hS]; exact kOX.id hx ho hu kEq.rf rfl)
    · obtain rfl : p0 = 5 := kn_i32 (by rw [hv]; decide)
      refine kv_tableIn dX11_count_1 92 (by decide) (by decide) rfl (by decide) ?_
      have hS : kcount a 5 = _ := if_neg (by decide)
      refine kv_aload_n dX11_count_92 rfl ?_
      refine kw_gR dX11_count_93 fX11_12 hu (by first | rfl | assumption) rfl rfl (by first | rfl | assumption) ?_
      refine kw_Vi [] mX7_entriesThatCount dX11_count_96 lX11_429 wX7_entriesThatCount kC7 hu rfl (by first | rfl | assumption) rfl rfl rfl (qX7_entriesThatCount hu hr hg) (by decide) ?_
      exact kv_iret dX11_count_99 rfl (by rw [hS]; exact kOX.id hx ho hu kEq.rf rfl)
    · obtain rfl : p0 = 6 := kn_i32 (by rw [hv]; decide)
      refine kv_tableIn dX11_count_1 100 (by decide) (by decide) rfl (by decide) ?_
      have hS : kcount a 6 = _ := if_neg (by decide)
      refine kv_aload_n dX11_count_100 rfl ?_
      refine kw_gR dX11_count_101 fX11_12 hu (by first | rfl | assumption) rfl rfl (by first | rfl | assumption) ?_
      refine kw_gI dX11_count_104 fX11_222 hu (by first | rfl | assumption) rfl rfl ?_
      rw [hr.n5]
      exact kv_iret dX11_count_107 rfl (by rw [hS]; exact kOX.id hx ho hu kEq.rf rfl)
    · obtain rfl : p0 = 7 := kn_i32 (by rw [hv]; decide)
      refine kv_tableIn dX11_count_1 108 (by decide) (by decide) rfl (by decide) ?_
      have hS : kcount a 7 = _ := if_neg (by decide)
      refine kv_aload_n dX11_count_108 rfl ?_
      refine kw_gR dX11_count_109 fX11_12 hu (by first | rfl | assumption) rfl rfl (by first | rfl | assumption) ?_
      refine kw_gI dX11_count_112 fX11_411 hu (by first | rfl | assumption) rfl rfl ?_
      rw [hr.n6]
      exact kv_iret dX11_count_115 rfl (by rw [hS]; exact kOX.id hx ho hu kEq.rf rfl)
    · obtain rfl : p0 = 8 := kn_i32 (by rw [hv]; decide)
      refine kv_tableIn dX11_count_1 116 (by decide) (by decide) rfl (by decide) ?_
      have hS : kcount a 8 = _ := if_neg (by decide)
      refine kv_aload_n dX11_count_116 rfl ?_
      refine kw_gR dX11_count_117 fX11_54 hu (by first | rfl | assumption) rfl rfl (by first | rfl | assumption) ?_
      refine kw_gI dX11_count_120 fX11_382 hu (by first | rfl | assumption) rfl rfl ?_
      rw [hx.2.2.2.2.1]
      exact kv_iret dX11_count_123 rfl (by rw [hS]; exact kOX.id hx ho hu kEq.rf rfl)

set_option maxRecDepth 20000 in
set_option maxHeartbeats 4000000 in
theorem qX12_count {w : KW} {l : Launch} {u : KMem} (hu : kWd u) {a : KA} (hm : kRM a u) (ho : kOk a) (p0 : Int32) : KC w l mX12_count 2 0 0 [.ref 413, .int p0] u (kOM u (kcount a p0).1 (kcount a p0).2) := by
  have eg := hm.1
  have hg := ho.1
  have hx20 := (hg.cnt (k := 2) rfl).2
  have hc30 := (hg.cnt (k := 0) rfl).2
  have ht10 := (hg.cnt (k := 3) rfl).2
  have he40 := (hg.cnt (k := 4) rfl).2
  have hs16 := hg.cnt (k := 1) rfl
  have hw := hg.cnt (k := 4) rfl
  refine KC.of (ls := [_, _, _, _]) rfl rfl (Nat.le_of_ble_eq_true rfl) ?_
  refine kv_iconst dX12_count_0 0 ki_0 ?_
  refine kv_istore_n (ls2 := [_, _, _, _]) dX12_count_1 rfl rfl rfl rfl ?_
  refine kv_iload_n dX12_count_2 rfl ?_
  by_cases h1 : p0.toInt < 0 ∨ 8 < p0.toInt
  · refine kv_tableOut dX12_count_3 116 h1 (by decide) ?_
    have hS : kcount a p0 = (-1000001, kF a 1) := if_pos (kOut_t (n := 8) (by omega) (by assumption))
    refine kv_aload_n dX12_count_116 rfl ?_
    refine kv_ldc dX12_count_117 kX12_83 ?_
    refine kw_Vi [_] mX12_finding dX12_count_119 lX12_84 wX12_finding kC12 hu rfl (by first | rfl | assumption) rfl rfl rfl (qX12_finding hu 1 (by decide) (by decide) _ (by decide)) (by decide) ?_
    exact kv_iret dX12_count_122 rfl (by rw [hS]; exact kOM.no hm hu rfl)
  · rcases (show p0.toInt = 0 ∨ p0.toInt = 1 ∨ p0.toInt = 2 ∨ p0.toInt = 3 ∨ p0.toInt = 4 ∨ p0.toInt = 5 ∨ p0.toInt = 6 ∨ p0.toInt = 7 ∨ p0.toInt = 8 by omega) with hv | hv | hv | hv | hv | hv | hv | hv | hv
    · obtain rfl : p0 = 0 := kn_i32 (by rw [hv]; decide)
      refine kv_tableIn dX12_count_3 52 (by decide) (by decide) rfl (by decide) ?_
      refine kv_aload_n dX12_count_52 rfl ?_
      refine kw_gR dX12_count_53 fX12_9 hu (by first | rfl | assumption) rfl rfl (by first | rfl | assumption) ?_
      refine kv_iload_n dX12_count_56 rfl ?_
      refine kw_ig dX12_count_57 hu eg rfl (_) (by first | exact (show (0 : Int32) = nI 0 from rfl) | exact (show (1 : Int32) = nI 1 from rfl) | exact (show (2 : Int32) = nI 2 from rfl) | exact (show (3 : Int32) = nI 3 from rfl) | exact (show (4 : Int32) = nI 4 from rfl)) (by omega) rfl ?_
      exact kv_iret dX12_count_58 rfl (by first | exact kOM.id hm hu kEq.rf rfl)
    · obtain rfl : p0 = 1 := kn_i32 (by rw [hv]; decide)
      refine kv_tableIn dX12_count_3 52 (by decide) (by decide) rfl (by decide) ?_
      refine kv_aload_n dX12_count_52 rfl ?_
      refine kw_gR dX12_count_53 fX12_9 hu (by first | rfl | assumption) rfl rfl (by first | rfl | assumption) ?_
      refine kv_iload_n dX12_count_56 rfl ?_
      refine kw_ig dX12_count_57 hu eg rfl (_) (by first | exact (show (0 : Int32) = nI 0 from rfl) | exact (show (1 : Int32) = nI 1 from rfl) | exact (show (2 : Int32) = nI 2 from rfl) | exact (show (3 : Int32) = nI 3 from rfl) | exact (show (4 : Int32) = nI 4 from rfl)) (by omega) rfl ?_
      exact kv_iret dX12_count_58 rfl (by first | exact kOM.id hm hu kEq.rf rfl)
    · obtain rfl : p0 = 2 := kn_i32 (by rw [hv]; decide)
      refine kv_tableIn dX12_count_3 52 (by decide) (by decide) rfl (by decide) ?_
      refine kv_aload_n dX12_count_52 rfl ?_
      refine kw_gR dX12_count_53 fX12_9 hu (by first | rfl | assumption) rfl rfl (by first | rfl | assumption) ?_
      refine kv_iload_n dX12_count_56 rfl ?_
      refine kw_ig dX12_count_57 hu eg rfl (_) (by first | exact (show (0 : Int32) = nI 0 from rfl) | exact (show (1 : Int32) = nI 1 from rfl) | exact (show (2 : Int32) = nI 2 from rfl) | exact (show (3 : Int32) = nI 3 from rfl) | exact (show (4 : Int32) = nI 4 from rfl)) (by omega) rfl ?_
      exact kv_iret dX12_count_58 rfl (by first | exact kOM.id hm hu kEq.rf rfl)
    · obtain rfl : p0 = 3 := kn_i32 (by rw [hv]; decide)
      refine kv_tableIn dX12_count_3 52 (by decide) (by decide) rfl (by decide) ?_
      refine kv_aload_n dX12_count_52 rfl ?_
      refine kw_gR dX12_count_53 fX12_9 hu (by first | rfl | assumption) rfl rfl (by first | rfl | assumption) ?_
      refine kv_iload_n dX12_count_56 rfl ?_
      refine kw_ig dX12_count_57 hu eg rfl (_) (by first | exact (show (0 : Int32) = nI 0 from rfl) | exact (show (1 : Int32) = nI 1 from rfl) | exact (show (2 : Int32) = nI 2 from rfl) | exact (show (3 : Int32) = nI 3 from rfl) | exact (show (4 : Int32) = nI 4 from rfl)) (by omega) rfl ?_
      exact kv_iret dX12_count_58 rfl (by first | exact kOM.id hm hu kEq.rf rfl)
    · obtain rfl : p0 = 4 := kn_i32 (by rw [hv]; decide)
      refine kv_tableIn dX12_count_3 52 (by decide) (by decide) rfl (by decide) ?_
      refine kv_aload_n dX12_count_52 rfl ?_
      refine kw_gR dX12_count_53 fX12_9 hu (by first | rfl | assumption) rfl rfl (by first | rfl | assumption) ?_
      refine kv_iload_n dX12_count_56 rfl ?_
      refine kw_ig dX12_count_57 hu eg rfl (_) (by first | exact (show (0 : Int32) = nI 0 from rfl) | exact (show (1 : Int32) = nI 1 from rfl) | exact (show (2 : Int32) = nI 2 from rfl) | exact (show (3 : Int32) = nI 3 from rfl) | exact (show (4 : Int32) = nI 4 from rfl)) (by omega) rfl ?_
      exact kv_iret dX12_count_58 rfl (by first | exact kOM.id hm hu kEq.rf rfl)
    · obtain rfl : p0 = 5 := kn_i32 (by rw [hv]; decide)
      refine kv_tableIn dX12_count_3 59 (by decide) (by decide) rfl (by decide) ?_
      refine kv_iconst dX12_count_59 0 ki_0 ?_
      refine kv_istore_n (ls2 := [_, _, _, _]) dX12_count_60 rfl rfl rfl rfl ?_
      refine KV.loc (ls2 := [some (.ref 413), some (.int 5), some (.int (kCn (a 0) 0)), some (.int (nI 0))]) ?_ (ksS (by first | rfl | exact congrArg (fun z => some (Value.int z)) (kCn_y (by assumption)) | exact congrArg (fun z => some (Value.int z)) (kCn_n (by assumption))) (ksS (by first | rfl | exact congrArg (fun z => some (Value.int z)) (kCn_y (by assumption)) | exact congrArg (fun z => some (Value.int z)) (kCn_n (by assumption))) (ksS (by first | rfl | exact congrArg (fun z => some (Value.int z)) (kCn_y (by assumption)) | exact congrArg (fun z => some (Value.int z)) (kCn_n (by assumption))) (ksS (by first | rfl | exact congrArg (fun z => some (Value.int z)) (kCn_y (by assumption)) | exact congrArg (fun z => some (Value.int z)) (kCn_n (by assumption))) ksN))))
      refine kn_loop (P := fun i => KV w l mX12_count 2 0 0 61 [some (.ref 413), some (.int 5), some (.int (kCn (a 0) i)), some (.int (nI i))] [] u (kOM u (kcount a 5).1 (kcount a 5).2)) (kN (a 0) 4) ?_ (fun i hi ih => ?_)
      · refine kv_iload_n dX12_count_61 rfl ?_
        refine kv_aload_n dX12_count_62 rfl ?_
        refine kw_gR dX12_count_63 fX12_9 hu (by first | rfl | assumption) rfl rfl (by first | rfl | assumption) ?_
        refine kv_iconst dX12_count_66 4 ki_4 ?_
        refine kw_ig dX12_count_67 hu eg rfl (_) (show (4 : Int32) = nI 4 from rfl) (by omega) rfl ?_
        rw [hw.1]
        refine kv_icmp_ge dX12_count_68 94 (by decide) (fun h2 => ?_) (fun h2 => ?_)
        · refine kv_iload_n dX12_count_94 rfl ?_
          exact kv_iret dX12_count_95 rfl (by exact kOM.id hm hu kEq.rf rfl)
        · exact absurd h2 (fun q => q (Int32.le_refl _))
      · refine kv_iload_n dX12_count_61 rfl ?_
        refine kv_aload_n dX12_count_62 rfl ?_
        refine kw_gR dX12_count_63 fX12_9 hu (by first | rfl | assumption) rfl rfl (by first | rfl | assumption) ?_
        refine kv_iconst dX12_count_66 4 ki_4 ?_
        refine kw_ig dX12_count_67 hu eg rfl (_) (show (4 : Int32) = nI 4 from rfl) (by omega) rfl ?_
        rw [hw.1]
        refine kv_icmp_ge dX12_count_68 94 (by decide) (fun h3 => ?_) (fun h3 => ?_)
        · exact absurd h3 (kn_ge hi (by omega))
        · refine kv_iload_n dX12_count_71 rfl ?_
          refine kv_aload_n dX12_count_72 rfl ?_
          refine kv_iload_n dX12_count_73 rfl ?_
          refine kw_Vi [_] mX12_firstOf dX12_count_74 lX12_295 wX12_firstOf kC12 hu rfl (by first | rfl | assumption) rfl rfl rfl (qX12_firstOf hu eg hg i hi) (by decide) ?_
          refine kv_iload_n dX12_count_77 rfl ?_
          refine kv_icmp_ne dX12_count_78 85 (by decide) (fun h4 => ?_) (fun h4 => ?_)
          · refine kv_iconst dX12_count_85 0 ki_0 ?_
            refine kv_iadd dX12_count_86 ?_
            refine kv_istore_n (ls2 := [_, _, _, _]) dX12_count_87 rfl rfl rfl rfl ?_
            refine kv_iinc (ls2 := [_, _, _, _]) dX12_count_88 (nI (i + 1)) rfl (kv_inc1 i) rfl rfl rfl rfl ?_
            refine kv_goto dX12_count_91 61 (by decide) ?_
            exact KV.loc ih (ksS (by first | rfl | exact congrArg (fun z => some (Value.int z)) (kCn_y (by assumption)) | exact congrArg (fun z => some (Value.int z)) (kCn_n (by assumption))) (ksS (by first | rfl | exact congrArg (fun z => some (Value.int z)) (kCn_y (by assumption)) | exact congrArg (fun z => some (Value.int z)) (kCn_n (by assumption))) (ksS (by first | rfl | exact congrArg (fun z => some (Value.int z)) (kCn_y (by assumption)) | exact congrArg (fun z => some (Value.int z)) (kCn_n (by assumption))) (ksS (by first | rfl | exact congrArg (fun z => some (Value.int z)) (kCn_y (by assumption)) | exact congrArg (fun z => some (Value.int z)) (kCn_n (by assumption))) ksN))))
          · refine kv_iconst dX12_count_81 1 ki_1 ?_
            refine kv_goto dX12_count_82 86 (by decide) ?_
            refine kv_iadd dX12_count_86 ?_
            refine kv_istore_n (ls2 := [_, _, _, _]) dX12_count_87 rfl rfl rfl rfl ?_
            refine kv_iinc (ls2 := [_, _, _, _]) dX12_count_88 (nI (i + 1)) rfl (kv_inc1 i) rfl rfl rfl rfl ?_
            refine kv_goto dX12_count_91 61 (by decide) ?_
            exact KV.loc ih (ksS (by first | rfl | exact congrArg (fun z => some (Value.int z)) (kCn_y (by assumption)) | exact congrArg (fun z => some (Value.int z)) (kCn_n (by assumption))) (ksS (by first | rfl | exact congrArg (fun z => some (Value.int z)) (kCn_y (by assumption)) | exact congrArg (fun z => some (Value.int z)) (kCn_n (by assumption))) (ksS (by first | rfl | exact congrArg (fun z => some (Value.int z)) (kCn_y (by assumption)) | exact congrArg (fun z => some (Value.int z)) (kCn_n (by assumption))) (ksS (by first | rfl | exact congrArg (fun z => some (Value.int z)) (kCn_y (by assumption)) | exact congrArg (fun z => some (Value.int z)) (kCn_n (by assumption))) ksN))))
    · obtain rfl : p0 = 6 := kn_i32 (by rw [hv]; decide)
      refine kv_tableIn dX12_count_3 96 (by decide) (by decide) rfl (by decide) ?_
      refine kv_aload_n dX12_count_96 rfl ?_
      refine kw_gR dX12_count_97 fX12_9 hu (by first | rfl | assumption) rfl rfl (by first | rfl | assumption) ?_
      refine kv_iconst dX12_count_100 5 ki_5 ?_
      refine kw_ig dX12_count_101 hu eg rfl (_) (show (5 : Int32) = nI 5 from rfl) (by omega) rfl ?_
      exact kv_iret dX12_count_102 rfl (by exact kOM.id hm hu kEq.rf rfl)
    · obtain rfl : p0 = 7 := kn_i32 (by rw [hv]; decide)
      refine kv_tableIn dX12_count_3 103 (by decide) (by decide) rfl (by decide) ?_
      refine kv_aload_n dX12_count_103 rfl ?_
      refine kw_gR dX12_count_104 fX12_9 hu (by first | rfl | assumption) rfl rfl (by first | rfl | assumption) ?_
      refine kv_bipush dX12_count_107 6 kb_6 ?_
      refine kw_ig dX12_count_109 hu eg rfl (_) (show (6 : Int32) = nI 6 from rfl) (by omega) rfl ?_
      exact kv_iret dX12_count_110 rfl (by exact kOM.id hm hu kEq.rf rfl)
    · obtain rfl : p0 = 8 := kn_i32 (by rw [hv]; decide)
      refine kv_tableIn dX12_count_3 111 (by decide) (by decide) rfl (by decide) ?_
      refine kv_aload_n dX12_count_111 rfl ?_
      refine kw_gI dX12_count_112 fX12_362 hu (by first | rfl | assumption) rfl rfl ?_
      rw [hm.2.2.2.2.2.1]
      exact kv_iret dX12_count_115 rfl (by exact kOM.id hm hu kEq.rf rfl)

theorem kcount_ok {a : KA} (ho : kOk a) (p0 : Int32) : kOk (kcount a p0).2 := by
  unfold kcount
  split
  · exact ho.fnd 1
  · exact ho
