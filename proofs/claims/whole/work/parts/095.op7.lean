/-! car, shape: what is new is written behind what there is -/
section KISG
variable {w : KW} {l : Launch} {mm : KM} {dd nc ns pc : Nat} {ls : List (Option Value)} {rest : List Value} {u : KMem} {Q : Option Value → KMem → Prop}
/-- a number of `now` is written -/
theorem kw_isg {u0 : KMem} {g : Nat → Int32} {i x : Int32} (d : decode mm.2.1 pc = .ok (.iastore, 1)) (hu : kWd u) (eg : u.2.1 414 = g) (ev : ∀ b, b ≠ 414 → u.2.1 b = u0.2.1 b) (j : Nat) (hi : i = nI j) (hj : j < 1421)
    (kk : ∀ v, kWd v → v.2.1 414 = kSet g j x → (∀ b, b ≠ 414 → v.2.1 b = u0.2.1 b) → KV w l mm dd nc ns (pc + 1) ls rest v Q) : KV w l mm dd nc ns pc ls (.int x :: .int i :: .ref 414 :: rest) u Q :=
  kw_is d hu rfl j hi hj rfl (kk (kv_si u 414 j x) hu (by rw [kv_si_set, eg]) (fun b hb => (kv_si_row hb).trans (ev b hb)))
end KISG
/-- a row is filled up to n -/
def kFl (u : KMem) (b n : Nat) (x : Int32) : KMem := (u.1, (fun a k => if a = b ∧ k < n then x else u.2.1 a k), u.2.2)
theorem kFl_0 (u : KMem) (b : Nat) (x : Int32) : kFl u b 0 x = u := by
  unfold kFl
  rw [show (fun a k => if a = b ∧ k < 0 then x else u.2.1 a k) = u.2.1 from funext fun a => funext fun k => if_neg (fun q => absurd q.2 (Nat.not_lt_zero k))]
theorem kFl_n {u : KMem} {b n a k : Nat} {x : Int32} (h : ¬ (a = b ∧ k < n)) : (kFl u b n x).2.1 a k = u.2.1 a k := if_neg h
theorem kFl_s {u : KMem} {b n k : Nat} {x : Int32} (h : k < n) : (kFl u b n x).2.1 b k = x := if_pos ⟨rfl, h⟩
theorem kFl_row {u : KMem} {b n a : Nat} {x : Int32} (h : a ≠ b) : (kFl u b n x).2.1 a = u.2.1 a := funext fun _ => if_neg (fun q => h q.1)
theorem kFl_step (u : KMem) (b n : Nat) (x : Int32) : kv_si (kFl u b n x) b n x = kFl u b (n + 1) x := by
  have e : (kv_si (kFl u b n x) b n x).2.1 = (kFl u b (n + 1) x).2.1 := by
    funext a k
    by_cases h : a = b ∧ k = n
    · obtain ⟨rfl, rfl⟩ := h
      rw [kv_si_s, kFl_s (by omega)]
    · rw [kv_si_n h]
      by_cases h2 : a = b ∧ k < n
      · rw [show a = b from h2.1, kFl_s h2.2, kFl_s (by omega)]
      · rw [kFl_n h2, kFl_n (by omega)]
  show (u.1, (kv_si (kFl u b n x) b n x).2.1, u.2.2) = _
  rw [e]
  rfl
theorem kFl_wd {u : KMem} {b n : Nat} {x : Int32} (h : kWd u) : kWd (kFl u b n x) := h
theorem kn_rem {a d : Nat} (ha : a < 2147483648) (hd : d < 2147483648) (h0 : 0 < d) : nI a - nI a / nI d * nI d = nI (a % d) := by
  have h1 := Nat.div_add_mod a d
  rw [pk_div ha h0 hd, pk_mul, pk_sub (Nat.div_mul_le_self a d), Nat.mul_comm]
  exact congrArg nI (by omega)
theorem kUp_div {j d n : Nat} (hj : j < 2147483648) (hd : d < 2147483648) (h0 : 0 < d) (h : j / d ≤ n) : kUp (nI j / nI d) n := ⟨j / d, h, pk_div hj h0 hd⟩
theorem kUp_rem {j d n : Nat} (hj : j < 2147483648) (hd : d < 2147483648) (h0 : 0 < d) (h : d ≤ n + 1) : kUp (nI j - nI j / nI d * nI d) n := ⟨j % d, by have := Nat.mod_lt j h0; omega, kn_rem hj hd h0⟩
set_option maxRecDepth 20000 in
set_option maxHeartbeats 4000000 in
theorem qJ7_fill_53178 {w : KW} {l : Launch} {u : KMem} (hu : kWd u) {b n : Nat} (hs : kv_sh b = (20, n)) (hn : n < 1000) (h0 : Nat.blt 0 n = true) (x : Int32) : KC w l mJ7_fill_53178 0 0 0 [.ref b, .int x] u (kq none (kFl u b n x)) := by
  refine KC.of (ls := [_, _, _, _]) rfl rfl (Nat.le_of_ble_eq_true rfl) ?_
  refine kv_iconst dJ7_fill_53178_0 0 ki_0 ?_
  refine kv_istore_n (ls2 := [_, _, _, _]) dJ7_fill_53178_1 rfl rfl rfl rfl ?_
  refine kv_aload_n dJ7_fill_53178_2 rfl ?_
  refine kw_len (t := 0) dJ7_fill_53178_3 hu hs rfl h0 ?_
  refine kv_istore_n (ls2 := [_, _, _, _]) dJ7_fill_53178_4 rfl rfl rfl rfl ?_
  refine Eq.subst (motive := fun z => KV w l mJ7_fill_53178 0 0 0 5 _ [] z _) (kFl_0 u b x) ?_
  refine KV.loc (ls2 := [some (.ref b), some (.int x), some (.int (nI (0))), some (.int (nI n))]) ?_ (ksS rfl (ksS rfl (ksS rfl (ksS rfl ksN))))
  refine kn_loop (P := fun i => KV w l mJ7_fill_53178 0 0 0 5 [some (.ref b), some (.int x), some (.int (nI (i))), some (.int (nI n))] [] (kFl u b (i) x) (kq none (kFl u b n x))) (n) ?_ (fun i hi ih => ?_)
  · refine kv_iload_n dJ7_fill_53178_5 rfl ?_
    refine kv_iload_n dJ7_fill_53178_6 rfl ?_
    refine kv_icmp_ge dJ7_fill_53178_7 20 (by decide) (fun h1 => ?_) (fun h1 => ?_)
    · exact kv_vret dJ7_fill_53178_20 rfl ⟨rfl, rfl⟩
    · exact absurd h1 (fun q => q (Int32.le_refl _))
  · refine kv_iload_n dJ7_fill_53178_5 rfl ?_
    refine kv_iload_n dJ7_fill_53178_6 rfl ?_
    refine kv_icmp_ge dJ7_fill_53178_7 20 (by decide) (fun h2 => ?_) (fun h2 => ?_)
    · exact absurd h2 (kn_ge hi (by omega))
    · refine kv_aload_n dJ7_fill_53178_10 rfl ?_
      refine kv_iload_n dJ7_fill_53178_11 rfl ?_
      refine kv_iload_n dJ7_fill_53178_12 rfl ?_
      refine kw_is dJ7_fill_53178_13 (kFl_wd hu) hs i rfl hi (Nat.ble_eq_true_of_le (show n + 1 ≤ 2147483648 by omega)) ?_
      refine kv_iinc (ls2 := [_, _, _, _]) dJ7_fill_53178_14 (nI (i + 1)) rfl (kv_inc1 i) rfl rfl rfl rfl ?_
      refine kv_goto dJ7_fill_53178_17 5 (by decide) ?_
      rw [kFl_step]
      exact KV.loc ih (ksS rfl (ksS rfl (ksS rfl (ksS rfl ksN))))

set_option maxRecDepth 20000 in
set_option maxHeartbeats 4000000 in
theorem qX0_become {w : KW} {l : Launch} {u : KMem} (hu : kWd u) (c : Nat) (hc : c < 30) (p0 p1 p2 p3 : Int32) : KC w l mX0_become 1 0 0 [.ref (1 + (12 + 2 * c)), .int p0, .int p1, .int p2, .int p3] u (kq none (kFl (kv_si (kv_si (kv_si (kv_si (kv_si u (1 + (12 + 2 * c)) 0 p0) (1 + (12 + 2 * c)) 1 p1) (1 + (12 + 2 * c)) 2 (p2 / 1000)) (1 + (12 + 2 * c)) 3 (p2 - p2 / 1000 * 1000)) (1 + (12 + 2 * c)) 4 p3) (1 + (12 + 2 * c + 1)) 3 (-1))) := by
  refine KC.of (ls := [_, _, _, _, _]) rfl rfl (Nat.le_of_ble_eq_true rfl) ?_
  have kc := ks_car c hc
  have kc1 := kc.1
  have kc2 := kc.2.1
  have kc3 := kc.2.2.1
  refine kv_aload_n dX0_become_0 rfl ?_
  refine kv_iload_n dX0_become_1 rfl ?_
  refine kw_pI dX0_become_2 fX0_15 hu (by first | rfl | assumption) rfl rfl ?_
  refine kv_aload_n dX0_become_5 rfl ?_
  refine kv_iload_n dX0_become_6 rfl ?_
  refine kw_pI dX0_become_7 fX0_19 hu (by first | rfl | assumption) rfl rfl ?_
  refine kv_aload_n dX0_become_10 rfl ?_
  refine kv_iload_n dX0_become_11 rfl ?_
  refine kv_sipush dX0_become_12 1000 kz_1000 ?_
  refine kv_idiv dX0_become_15 (by decide) ?_
  refine kw_pI dX0_become_16 fX0_22 hu (by first | rfl | assumption) rfl rfl ?_
  refine kv_aload_n dX0_become_19 rfl ?_
  refine kv_iload_n dX0_become_20 rfl ?_
  refine kv_sipush dX0_become_21 1000 kz_1000 ?_
  refine kv_irem dX0_become_24 (by decide) ?_
  refine kw_pI dX0_become_25 fX0_25 hu (by first | rfl | assumption) rfl rfl ?_
  refine kv_aload_n dX0_become_28 rfl ?_
  refine kv_iload dX0_become_29 rfl ?_
  refine kw_pI dX0_become_31 fX0_28 hu (by first | rfl | assumption) rfl rfl ?_
  refine kv_aload_n dX0_become_34 rfl ?_
  refine kw_gR dX0_become_35 fX0_9 hu (by first | rfl | assumption) rfl rfl (by first | rfl | assumption) ?_
  refine kv_iconst dX0_become_38 (-1) ki_m1 ?_
  refine kw_Sv [_, _] mJ7_fill_53178 dX0_become_39 lX0_31 wJ7_fill_53178 rfl rfl rfl (qJ7_fill_53178 (by exact hu) kc2 (by omega) rfl _) (by decide) ?_
  exact kv_vret dX0_become_42 rfl ⟨rfl, rfl⟩

def kcarG (g : Nat → Int32) (p0 p1 p2 p3 : Int32) : Nat → Int32 := (kSet (kSet (kSet (kSet (kSet (kSet (kSet (kSet (kSet g (40 + 8 * kN g 0 + 0) p0) (40 + 8 * kN g 0 + 1) p1) (40 + 8 * kN g 0 + 2) (p2 / 1000)) (40 + 8 * kN g 0 + 3) (p2 - p2 / 1000 * 1000)) (40 + 8 * kN g 0 + 4) p3) (40 + 8 * kN g 0 + 5 + 0) (-1)) (40 + 8 * kN g 0 + 5 + 1) (-1)) (40 + 8 * kN g 0 + 5 + 2) (-1)) (0) (g 0 + 1))
def kcar (a : KA) (p0 p1 p2 p3 : Int32) : Int32 × KA := if kOut p0 0 10 ∨ kOut p1 1 99999 ∨ kOut p2 0 20999 ∨ kOut p3 0 255 then (-1000001, kF a 1) else if a 0 0 < 30 then (nI (kN (a 0) 0), kUp1 a 0 (kcarG (a 0) p0 p1 p2 p3)) else (-1000004, kF a 4)
set_option maxRecDepth 20000 in
set_option maxHeartbeats 4000000 in
theorem qX11_car {w : KW} {l : Launch} {u : KMem} (hu : kWd u) {a : KA} (hx : kRX a u) (ho : kOk a) (p0 p1 p2 p3 : Int32) : KC w l mX11_car 2 0 0 [.ref 0, .int p0, .int p1, .int p2, .int p3] u (kOX u (kcar a p0 p1 p2 p3).1 (kcar a p0 p1 p2 p3).2) := by
  have hr := hx.1
  have hg := ho.1
  have hx20 := (hg.cnt (k := 2) rfl).2
  have hc30 := (hg.cnt (k := 0) rfl).2
  have ht10 := (hg.cnt (k := 3) rfl).2
  have he40 := (hg.cnt (k := 4) rfl).2
  have hs16 := hg.cnt (k := 1) rfl
  refine KC.of (ls := [_, _, _, _, _]) rfl rfl (Nat.le_of_ble_eq_true rfl) ?_
  have hw := hg.cnt (k := 0) rfl
  refine kv_iload_n dX11_car_0 rfl ?_
  refine kv_iconst dX11_car_1 0 ki_0 ?_
  refine kv_bipush dX11_car_2 10 kb_10 ?_
  refine kw_Si [_, _, _] mX11_outside dX11_car_4 lX11_69 wX11_outside rfl rfl rfl (qX11_outside (by exact hu) _ _ _) (by decide) ?_
  refine kw_bne dX11_car_7 43 (by decide) (fun h1 => ?_) (fun h1 => ?_)
  · have hS : kcar a p0 p1 p2 p3 = (-1000001, kF a 1) := if_pos (Or.inl h1)
    refine kv_aload_n dX11_car_43 rfl ?_
    refine kv_ldc dX11_car_44 kX11_74 ?_
    refine kw_Vi [_] mX11_refuse dX11_car_46 lX11_75 wX11_refuse kC11 hu rfl (by first | rfl | assumption) rfl rfl rfl (qX11_refuse (by exact hu) 1 (by decide) (by decide) _ (by decide)) (by decide) ?_
    exact kv_iret dX11_car_49 rfl (by rw [hS]; exact kOX.no hx ho hu (by decide) rfl)
  · have n1 : ¬ kOut p0 0 10 := h1
    refine kv_iload_n dX11_car_10 rfl ?_
    refine kv_iconst dX11_car_11 1 ki_1 ?_
    refine kv_ldc dX11_car_12 kX11_73 ?_
    refine kw_Si [_, _, _] mX11_outside dX11_car_14 lX11_69 wX11_outside rfl rfl rfl (qX11_outside (by exact hu) _ _ _) (by decide) ?_
    refine kw_bne dX11_car_17 43 (by decide) (fun h2 => ?_) (fun h2 => ?_)
    · have hS : kcar a p0 p1 p2 p3 = (-1000001, kF a 1) := if_pos (Or.inr (Or.inl h2))
      refine kv_aload_n dX11_car_43 rfl ?_
      refine kv_ldc dX11_car_44 kX11_74 ?_
      refine kw_Vi [_] mX11_refuse dX11_car_46 lX11_75 wX11_refuse kC11 hu rfl (by first | rfl | assumption) rfl rfl rfl (qX11_refuse (by exact hu) 1 (by decide) (by decide) _ (by decide)) (by decide) ?_
      exact kv_iret dX11_car_49 rfl (by rw [hS]; exact kOX.no hx ho hu (by decide) rfl)
    · have n2 : ¬ kOut p1 1 99999 := h2
      refine kv_iload_n dX11_car_20 rfl ?_
      refine kv_iconst dX11_car_21 0 ki_0 ?_
      refine kv_sipush dX11_car_22 20999 kz_20999 ?_
      refine kw_Si [_, _, _] mX11_outside dX11_car_25 lX11_69 wX11_outside rfl rfl rfl (qX11_outside (by exact hu) _ _ _) (by decide) ?_
      refine kw_bne dX11_car_28 43 (by decide) (fun h3 => ?_) (fun h3 => ?_)
      · have hS : kcar a p0 p1 p2 p3 = (-1000001, kF a 1) := if_pos (Or.inr (Or.inr (Or.inl h3)))
        refine kv_aload_n dX11_car_43 rfl ?_
        refine kv_ldc dX11_car_44 kX11_74 ?_
        refine kw_Vi [_] mX11_refuse dX11_car_46 lX11_75 wX11_refuse kC11 hu rfl (by first | rfl | assumption) rfl rfl rfl (qX11_refuse (by exact hu) 1 (by decide) (by decide) _ (by decide)) (by decide) ?_
        exact kv_iret dX11_car_49 rfl (by rw [hS]; exact kOX.no hx ho hu (by decide) rfl)
      · have n3 : ¬ kOut p2 0 20999 := h3
        refine kv_iload dX11_car_31 rfl ?_
        refine kv_iconst dX11_car_33 0 ki_0 ?_
        refine kv_sipush dX11_car_34 255 kz_255 ?_
        refine kw_Si [_, _, _] mX11_outside dX11_car_37 lX11_69 wX11_outside rfl rfl rfl (qX11_outside (by exact hu) _ _ _) (by decide) ?_
        refine kw_beq dX11_car_40 50 (by decide) (fun h4 => ?_) (fun h4 => ?_)
        · have n4 : ¬ kOut p3 0 255 := h4
          have hS : kcar a p0 p1 p2 p3 = _ := if_neg (fun q => q.elim n1 (fun q => q.elim n2 (fun q => q.elim n3 n4)))
          refine kv_aload_n dX11_car_50 rfl ?_
          refine kw_gR dX11_car_51 fX11_12 hu (by first | rfl | assumption) rfl rfl (by first | rfl | assumption) ?_
          refine kw_gI dX11_car_54 fX11_79 hu (by first | rfl | assumption) rfl rfl ?_
          rw [hr.n0]
          refine kv_bipush dX11_car_57 30 kb_30 ?_
          refine kv_icmp_lt dX11_car_59 69 (by decide) (fun h5 => ?_) (fun h5 => ?_)
          · rw [if_pos h5] at hS
            have hlt : kN (a 0) 0 < 30 := by
              have := h5
              rw [hw.1] at this
              exact (nI_ltI (b := 30) (by omega) (by omega)).mp this
            have kc := ks_car (kN (a 0) 0) (by omega)
            have kc1 := kc.1
            have kc2 := kc.2.1
            have kc3 := kc.2.2.1
            have kc4 := kc.2.2.2
            refine kv_aload_n dX11_car_69 rfl ?_
            refine kw_gR dX11_car_70 fX11_12 hu (by first | rfl | assumption) rfl rfl (by first | rfl | assumption) ?_
            refine kw_gR dX11_car_73 fX11_84 hu (by first | rfl | assumption) rfl rfl (by first | rfl | assumption) ?_
            refine kv_aload_n dX11_car_76 rfl ?_
            refine kw_gR dX11_car_77 fX11_12 hu (by first | rfl | assumption) rfl rfl (by first | rfl | assumption) ?_
            refine kw_gI dX11_car_80 fX11_79 hu (by first | rfl | assumption) rfl rfl ?_
            rw [hr.n0, hw.1]
            refine kw_al (t := 0) (n := 30) dX11_car_83 hu rfl rfl (kN (a 0) 0) rfl (by omega) rfl (by first | rfl | assumption) ?_
            refine kv_iload_n dX11_car_84 rfl ?_
            refine kv_iload_n dX11_car_85 rfl ?_
            refine kv_iload_n dX11_car_86 rfl ?_
            refine kv_iload dX11_car_87 rfl ?_
            refine kw_Vv [_, _, _, _] mX0_become dX11_car_89 lX11_88 wX0_become kC0 hu rfl (by first | rfl | assumption) rfl rfl rfl (qX0_become hu (kN (a 0) 0) (by omega) _ _ _ _) (by decide) ?_
            refine kv_aload_n dX11_car_92 rfl ?_
            refine kw_gR dX11_car_93 fX11_12 hu (by first | rfl | assumption) rfl rfl (by first | rfl | assumption) ?_
            refine kv_dup dX11_car_96 rfl ?_
            refine kw_gI dX11_car_97 fX11_79 hu (by first | rfl | assumption) rfl rfl ?_
            rw [kFl_n (by omega), kv_si_n (by omega), kv_si_n (by omega), kv_si_n (by omega), kv_si_n (by omega), kv_si_n (by omega), hr.n0]
            refine kv_iconst dX11_car_100 1 ki_1 ?_
            refine kv_iadd dX11_car_101 ?_
            refine kw_pI dX11_car_102 fX11_79 hu (by first | rfl | assumption) rfl rfl ?_
            refine kv_aload_n dX11_car_105 rfl ?_
            refine kw_gR dX11_car_106 fX11_12 hu (by first | rfl | assumption) rfl rfl (by first | rfl | assumption) ?_
            refine kw_gI dX11_car_109 fX11_79 hu (by first | rfl | assumption) rfl rfl ?_
            rw [kv_si_s]
            refine kv_iconst dX11_car_112 1 ki_1 ?_
            refine kv_isub dX11_car_113 ?_
            exact kv_iret dX11_car_114 rfl (by
                rw [hS]
                refine ⟨by rw [hw.1, Int32.add_sub_cancel], hu, (fun b hb => by repeat (first | rw [kv_si_row (by omega)] | rw [kFl_row (by omega)])), hx.now ho (hr.addCar hg hlt (fun i hi => by unfold kcarG; repeat rw [kSet_n (by omega)]) (fun b k q => by repeat (first | rw [kv_si_n (by omega)] | rw [kFl_n (by omega)])) (by unfold kcarG; (repeat (first | rw [kv_si_n (by omega)] | rw [kFl_n (by omega)] | rw [kSet_n (by omega)] | rw [kv_si_s] | rw [kFl_s (by omega)] | rw [kSet_s]))) (kN_suc (by unfold kcarG; rw [kSet_s]; exact congrArg (· + 1) hw.1) (by omega)) ⟨fun f hf => ?_, fun m hm => ?_⟩) (fun b k hb _ => by repeat (first | rw [kv_si_n (by omega)] | rw [kFl_n (by omega)]))⟩
                · rcases (show f = 0 ∨ f = 1 ∨ f = 2 ∨ f = 3 ∨ f = 4 by omega) with rfl | rfl | rfl | rfl | rfl <;> (unfold kcarG; (repeat (first | rw [kv_si_n (by omega)] | rw [kFl_n (by omega)] | rw [kSet_n (by omega)] | rw [kv_si_s] | rw [kFl_s (by omega)] | rw [kSet_s])))
                · rcases (show m = 0 ∨ m = 1 ∨ m = 2 by omega) with rfl | rfl | rfl <;> (unfold kcarG; (repeat (first | rw [kv_si_n (by omega)] | rw [kFl_n (by omega)] | rw [kSet_n (by omega)] | rw [kv_si_s] | rw [kFl_s (by omega)] | rw [kSet_s]))))
          · rw [if_neg h5] at hS
            refine kv_aload_n dX11_car_62 rfl ?_
            refine kv_ldc dX11_car_63 kX11_83 ?_
            refine kw_Vi [_] mX11_refuse dX11_car_65 lX11_75 wX11_refuse kC11 hu rfl (by first | rfl | assumption) rfl rfl rfl (qX11_refuse (by exact hu) 4 (by decide) (by decide) _ (by decide)) (by decide) ?_
            exact kv_iret dX11_car_68 rfl (by rw [hS]; exact kOX.no hx ho hu (by decide) rfl)
        · have hS : kcar a p0 p1 p2 p3 = (-1000001, kF a 1) := if_pos (Or.inr (Or.inr (Or.inr (h4))))
          refine kv_aload_n dX11_car_43 rfl ?_
          refine kv_ldc dX11_car_44 kX11_74 ?_
          refine kw_Vi [_] mX11_refuse dX11_car_46 lX11_75 wX11_refuse kC11 hu rfl (by first | rfl | assumption) rfl rfl rfl (qX11_refuse (by exact hu) 1 (by decide) (by decide) _ (by decide)) (by decide) ?_
          exact kv_iret dX11_car_49 rfl (by rw [hS]; exact kOX.no hx ho hu (by decide) rfl)

set_option maxRecDepth 20000 in
set_option maxHeartbeats 4000000 in
theorem qX12_car_ {w : KW} {l : Launch} {u : KMem} (hu : kWd u) {a : KA} (hm : kRM a u) (ho : kOk a) (p0 p1 p2 p3 : Int32) : KC w l mX12_car_ 1 0 0 [.ref 413, .int p0, .int p1, .int p2, .int p3] u (kOM u (kcar a p0 p1 p2 p3).1 (kcar a p0 p1 p2 p3).2) := by
  have eg := hm.1
  have hg := ho.1
  have hx20 := (hg.cnt (k := 2) rfl).2
  have hc30 := (hg.cnt (k := 0) rfl).2
  have ht10 := (hg.cnt (k := 3) rfl).2
  have he40 := (hg.cnt (k := 4) rfl).2
  have hs16 := hg.cnt (k := 1) rfl
  refine KC.of (ls := [_, _, _, _, _, _, _, _, _]) rfl rfl (Nat.le_of_ble_eq_true rfl) ?_
  have hw := hg.cnt (k := 0) rfl
  refine kv_iload_n dX12_car__0 rfl ?_
  refine kv_iconst dX12_car__1 0 ki_0 ?_
  refine kv_bipush dX12_car__2 10 kb_10 ?_
  refine kw_Si [_, _, _] mX12_within dX12_car__4 lX12_78 wX12_within rfl rfl rfl (qX12_within (by exact hu) _ _ _) (by decide) ?_
  refine kw_beq dX12_car__7 47 (by decide) (fun h1 => ?_) (fun h1 => ?_)
  · have hS : kcar a p0 p1 p2 p3 = (-1000001, kF a 1) := if_pos (Or.inl (kIn_n h1))
    refine kv_iconst dX12_car__47 0 ki_0 ?_
    refine kv_istore (ls2 := [_, _, _, _, _, _, _, _, _]) dX12_car__48 rfl rfl rfl rfl ?_
    refine kv_iload dX12_car__50 rfl ?_
    refine kv_if_ne dX12_car__52 62 (by decide) (fun h2 => ?_) (fun h2 => ?_)
    · exact absurd h2 (by decide)
    · refine kv_aload_n dX12_car__55 rfl ?_
      refine kv_ldc dX12_car__56 kX12_83 ?_
      refine kw_Vi [_] mX12_finding dX12_car__58 lX12_84 wX12_finding kC12 hu rfl (by first | rfl | assumption) rfl rfl rfl (qX12_finding (by exact hu) 1 (by decide) (by decide) _ (by decide)) (by decide) ?_
      exact kv_iret dX12_car__61 rfl (by rw [hS]; exact kOM.no hm hu rfl)
  · have n1 : ¬ kOut p0 0 10 := kIn_y h1
    refine kv_iload_n dX12_car__10 rfl ?_
    refine kv_iconst dX12_car__11 1 ki_1 ?_
    refine kv_ldc dX12_car__12 kX12_82 ?_
    refine kw_Si [_, _, _] mX12_within dX12_car__14 lX12_78 wX12_within rfl rfl rfl (qX12_within (by exact hu) _ _ _) (by decide) ?_
    refine kw_beq dX12_car__17 47 (by decide) (fun h3 => ?_) (fun h3 => ?_)
    · have hS : kcar a p0 p1 p2 p3 = (-1000001, kF a 1) := if_pos (Or.inr (Or.inl (kIn_n h3)))
      refine kv_iconst dX12_car__47 0 ki_0 ?_
      refine kv_istore (ls2 := [_, _, _, _, _, _, _, _, _]) dX12_car__48 rfl rfl rfl rfl ?_
      refine kv_iload dX12_car__50 rfl ?_
      refine kv_if_ne dX12_car__52 62 (by decide) (fun h4 => ?_) (fun h4 => ?_)
      · exact absurd h4 (by decide)
      · refine kv_aload_n dX12_car__55 rfl ?_
        refine kv_ldc dX12_car__56 kX12_83 ?_
        refine kw_Vi [_] mX12_finding dX12_car__58 lX12_84 wX12_finding kC12 hu rfl (by first | rfl | assumption) rfl rfl rfl (qX12_finding (by exact hu) 1 (by decide) (by decide) _ (by decide)) (by decide) ?_
        exact kv_iret dX12_car__61 rfl (by rw [hS]; exact kOM.no hm hu rfl)
    · have n2 : ¬ kOut p1 1 99999 := kIn_y h3
      refine kv_iload_n dX12_car__20 rfl ?_
      refine kv_iconst dX12_car__21 0 ki_0 ?_
      refine kv_sipush dX12_car__22 20999 kz_20999 ?_
      refine kw_Si [_, _, _] mX12_within dX12_car__25 lX12_78 wX12_within rfl rfl rfl (qX12_within (by exact hu) _ _ _) (by decide) ?_
      refine kw_beq dX12_car__28 47 (by decide) (fun h5 => ?_) (fun h5 => ?_)
      · have hS : kcar a p0 p1 p2 p3 = (-1000001, kF a 1) := if_pos (Or.inr (Or.inr (Or.inl (kIn_n h5))))
        refine kv_iconst dX12_car__47 0 ki_0 ?_
        refine kv_istore (ls2 := [_, _, _, _, _, _, _, _, _]) dX12_car__48 rfl rfl rfl rfl ?_
        refine kv_iload dX12_car__50 rfl ?_
        refine kv_if_ne dX12_car__52 62 (by decide) (fun h6 => ?_) (fun h6 => ?_)
        · exact absurd h6 (by decide)
        · refine kv_aload_n dX12_car__55 rfl ?_
          refine kv_ldc dX12_car__56 kX12_83 ?_
          refine kw_Vi [_] mX12_finding dX12_car__58 lX12_84 wX12_finding kC12 hu rfl (by first | rfl | assumption) rfl rfl rfl (qX12_finding (by exact hu) 1 (by decide) (by decide) _ (by decide)) (by decide) ?_
          exact kv_iret dX12_car__61 rfl (by rw [hS]; exact kOM.no hm hu rfl)
      · have n3 : ¬ kOut p2 0 20999 := kIn_y h5
        refine kv_iload dX12_car__31 rfl ?_
        refine kv_iconst dX12_car__33 0 ki_0 ?_
        refine kv_sipush dX12_car__34 255 kz_255 ?_
        refine kw_Si [_, _, _] mX12_within dX12_car__37 lX12_78 wX12_within rfl rfl rfl (qX12_within (by exact hu) _ _ _) (by decide) ?_
        refine kw_beq dX12_car__40 47 (by decide) (fun h7 => ?_) (fun h7 => ?_)
        · have hS : kcar a p0 p1 p2 p3 = (-1000001, kF a 1) := if_pos (Or.inr (Or.inr (Or.inr ((kIn_n h7)))))
          refine kv_iconst dX12_car__47 0 ki_0 ?_
          refine kv_istore (ls2 := [_, _, _, _, _, _, _, _, _]) dX12_car__48 rfl rfl rfl rfl ?_
          refine kv_iload dX12_car__50 rfl ?_
          refine kv_if_ne dX12_car__52 62 (by decide) (fun h8 => ?_) (fun h8 => ?_)
          · exact absurd h8 (by decide)
          · refine kv_aload_n dX12_car__55 rfl ?_
            refine kv_ldc dX12_car__56 kX12_83 ?_
            refine kw_Vi [_] mX12_finding dX12_car__58 lX12_84 wX12_finding kC12 hu rfl (by first | rfl | assumption) rfl rfl rfl (qX12_finding (by exact hu) 1 (by decide) (by decide) _ (by decide)) (by decide) ?_
            exact kv_iret dX12_car__61 rfl (by rw [hS]; exact kOM.no hm hu rfl)
        · have n4 : ¬ kOut p3 0 255 := kIn_y h7
          have hS : kcar a p0 p1 p2 p3 = _ := if_neg (fun q => q.elim n1 (fun q => q.elim n2 (fun q => q.elim n3 n4)))
          refine kv_iconst dX12_car__43 1 ki_1 ?_
          refine kv_goto dX12_car__44 48 (by decide) ?_
          refine kv_istore (ls2 := [_, _, _, _, _, _, _, _, _]) dX12_car__48 rfl rfl rfl rfl ?_
          refine kv_iload dX12_car__50 rfl ?_
          refine kv_if_ne dX12_car__52 62 (by decide) (fun h9 => ?_) (fun h9 => ?_)
          · refine kv_aload_n dX12_car__62 rfl ?_
            refine kw_gR dX12_car__63 fX12_9 hu (by first | rfl | assumption) rfl rfl (by first | rfl | assumption) ?_
            refine kv_iconst dX12_car__66 0 ki_0 ?_
            refine kw_ig dX12_car__67 hu eg rfl (_) (show (0 : Int32) = nI 0 from rfl) (by omega) rfl ?_
            rw [hw.1]
            refine kv_istore (ls2 := [_, _, _, _, _, _, _, _, _]) dX12_car__68 rfl rfl rfl rfl ?_
            refine kv_iload dX12_car__70 rfl ?_
            refine kv_bipush dX12_car__72 30 kb_30 ?_
            refine kv_icmp_ne dX12_car__74 84 (by decide) (fun h10 => ?_) (fun h10 => ?_)
            · have hlt : kN (a 0) 0 < 30 := by
                refine Nat.lt_of_le_of_ne hw.2 (fun q => h10 ?_)
                rw [q]
                rfl
              rw [if_pos (show a 0 0 < 30 by rw [hw.1]; exact nI_lt (b := 30) hlt (by omega))] at hS
              refine kv_bipush dX12_car__84 40 kb_40 ?_
              refine kv_bipush dX12_car__86 8 kb_8 ?_
              refine kv_iload dX12_car__88 rfl ?_
              refine kv_imul dX12_car__90 ?_
              refine kv_iadd dX12_car__91 ?_
              rw [show (40 + 8 * nI (kN (a 0) 0) : Int32) = nI (40 + 8 * kN (a 0) 0) from kn_add (show (40 : Int32) = nI 40 from rfl) (kn_mul (show (8 : Int32) = nI 8 from rfl) rfl)]
              refine kv_istore (ls2 := [_, _, _, _, _, _, _, _, _]) dX12_car__92 rfl rfl rfl rfl ?_
              refine kv_aload_n dX12_car__94 rfl ?_
              refine kw_gR dX12_car__95 fX12_9 hu (by first | rfl | assumption) rfl rfl (by first | rfl | assumption) ?_
              refine kv_iload dX12_car__98 rfl ?_
              refine kv_iconst dX12_car__100 0 ki_0 ?_
              refine kv_iadd dX12_car__101 ?_
              refine kv_iload_n dX12_car__102 rfl ?_
              refine kw_isg dX12_car__103 hu eg (fun _ _ => rfl) (_) (kn_add rfl (show (0 : Int32) = nI 0 from rfl)) (by omega) (fun vw1 huw1 egw1 evw1 => ?_)
              refine kv_aload_n dX12_car__104 rfl ?_
              refine kw_gR dX12_car__105 fX12_9 huw1 (by first | rfl | assumption) rfl rfl (by first | rfl | assumption) ?_
              refine kv_iload dX12_car__108 rfl ?_
              refine kv_iconst dX12_car__110 1 ki_1 ?_
              refine kv_iadd dX12_car__111 ?_
              refine kv_iload_n dX12_car__112 rfl ?_
              refine kw_isg dX12_car__113 huw1 egw1 evw1 (_) (kn_add rfl (show (1 : Int32) = nI 1 from rfl)) (by omega) (fun vw2 huw2 egw2 evw2 => ?_)
              refine kv_aload_n dX12_car__114 rfl ?_
              refine kw_gR dX12_car__115 fX12_9 huw2 (by first | rfl | assumption) rfl rfl (by first | rfl | assumption) ?_
              refine kv_iload dX12_car__118 rfl ?_
              refine kv_iconst dX12_car__120 2 ki_2 ?_
              refine kv_iadd dX12_car__121 ?_
              refine kv_iload_n dX12_car__122 rfl ?_
              refine kv_sipush dX12_car__123 1000 kz_1000 ?_
              refine kv_idiv dX12_car__126 (by decide) ?_
              refine kw_isg dX12_car__127 huw2 egw2 evw2 (_) (kn_add rfl (show (2 : Int32) = nI 2 from rfl)) (by omega) (fun vw3 huw3 egw3 evw3 => ?_)
              refine kv_aload_n dX12_car__128 rfl ?_
              refine kw_gR dX12_car__129 fX12_9 huw3 (by first | rfl | assumption) rfl rfl (by first | rfl | assumption) ?_
              refine kv_iload dX12_car__132 rfl ?_
              refine kv_iconst dX12_car__134 3 ki_3 ?_
              refine kv_iadd dX12_car__135 ?_
              refine kv_iload_n dX12_car__136 rfl ?_
              refine kv_sipush dX12_car__137 1000 kz_1000 ?_
              refine kv_irem dX12_car__140 (by decide) ?_
              refine kw_isg dX12_car__141 huw3 egw3 evw3 (_) (kn_add rfl (show (3 : Int32) = nI 3 from rfl)) (by omega) (fun vw4 huw4 egw4 evw4 => ?_)
              refine kv_aload_n dX12_car__142 rfl ?_
              refine kw_gR dX12_car__143 fX12_9 huw4 (by first | rfl | assumption) rfl rfl (by first | rfl | assumption) ?_
              refine kv_iload dX12_car__146 rfl ?_
              refine kv_iconst dX12_car__148 4 ki_4 ?_
              refine kv_iadd dX12_car__149 ?_
              refine kv_iload dX12_car__150 rfl ?_
              refine kw_isg dX12_car__152 huw4 egw4 evw4 (_) (kn_add rfl (show (4 : Int32) = nI 4 from rfl)) (by omega) (fun vw5 huw5 egw5 evw5 => ?_)
              refine kv_iconst dX12_car__153 0 ki_0 ?_
              refine kv_istore (ls2 := [_, _, _, _, _, _, _, _, _]) dX12_car__154 rfl rfl rfl rfl ?_
              refine kv_iload dX12_car__156 rfl ?_
              refine kv_iconst dX12_car__158 3 ki_3 ?_
              refine kv_icmp_ge dX12_car__159 181 (by decide) (fun h11 => ?_) (fun h11 => ?_)
              · exact absurd h11 (by decide)
              · refine kv_aload_n dX12_car__162 rfl ?_
                refine kw_gR dX12_car__163 fX12_9 huw5 (by first | rfl | assumption) rfl rfl (by first | rfl | assumption) ?_
                refine kv_iload dX12_car__166 rfl ?_
                refine kv_iconst dX12_car__168 5 ki_5 ?_
                refine kv_iadd dX12_car__169 ?_
                refine kv_iload dX12_car__170 rfl ?_
                refine kv_iadd dX12_car__172 ?_
                refine kv_iconst dX12_car__173 (-1) ki_m1 ?_
                refine kw_isg dX12_car__174 huw5 egw5 evw5 (_) (kn_add (kn_add rfl (show (5 : Int32) = nI 5 from rfl)) (show (0 : Int32) = nI 0 from rfl)) (by omega) (fun vw6 huw6 egw6 evw6 => ?_)
                refine kv_iinc (ls2 := [_, _, _, _, _, _, _, _, _]) dX12_car__175 (1 : Int32) rfl rfl rfl rfl rfl rfl ?_
                refine kv_goto dX12_car__178 156 (by decide) ?_
                refine kv_iload dX12_car__156 rfl ?_
                refine kv_iconst dX12_car__158 3 ki_3 ?_
                refine kv_icmp_ge dX12_car__159 181 (by decide) (fun h12 => ?_) (fun h12 => ?_)
                · exact absurd h12 (by decide)
                · refine kv_aload_n dX12_car__162 rfl ?_
                  refine kw_gR dX12_car__163 fX12_9 huw6 (by first | rfl | assumption) rfl rfl (by first | rfl | assumption) ?_
                  refine kv_iload dX12_car__166 rfl ?_
                  refine kv_iconst dX12_car__168 5 ki_5 ?_
                  refine kv_iadd dX12_car__169 ?_
                  refine kv_iload dX12_car__170 rfl ?_
                  refine kv_iadd dX12_car__172 ?_
                  refine kv_iconst dX12_car__173 (-1) ki_m1 ?_
                  refine kw_isg dX12_car__174 huw6 egw6 evw6 (_) (kn_add (kn_add rfl (show (5 : Int32) = nI 5 from rfl)) (show (1 : Int32) = nI 1 from rfl)) (by omega) (fun vw7 huw7 egw7 evw7 => ?_)
                  refine kv_iinc (ls2 := [_, _, _, _, _, _, _, _, _]) dX12_car__175 (2 : Int32) rfl rfl rfl rfl rfl rfl ?_
                  refine kv_goto dX12_car__178 156 (by decide) ?_
                  refine kv_iload dX12_car__156 rfl ?_
                  refine kv_iconst dX12_car__158 3 ki_3 ?_
                  refine kv_icmp_ge dX12_car__159 181 (by decide) (fun h13 => ?_) (fun h13 => ?_)
                  · exact absurd h13 (by decide)
                  · refine kv_aload_n dX12_car__162 rfl ?_
                    refine kw_gR dX12_car__163 fX12_9 huw7 (by first | rfl | assumption) rfl rfl (by first | rfl | assumption) ?_
                    refine kv_iload dX12_car__166 rfl ?_
                    refine kv_iconst dX12_car__168 5 ki_5 ?_
                    refine kv_iadd dX12_car__169 ?_
                    refine kv_iload dX12_car__170 rfl ?_
                    refine kv_iadd dX12_car__172 ?_
                    refine kv_iconst dX12_car__173 (-1) ki_m1 ?_
                    refine kw_isg dX12_car__174 huw7 egw7 evw7 (_) (kn_add (kn_add rfl (show (5 : Int32) = nI 5 from rfl)) (show (2 : Int32) = nI 2 from rfl)) (by omega) (fun vw8 huw8 egw8 evw8 => ?_)
                    refine kv_iinc (ls2 := [_, _, _, _, _, _, _, _, _]) dX12_car__175 (3 : Int32) rfl rfl rfl rfl rfl rfl ?_
                    refine kv_goto dX12_car__178 156 (by decide) ?_
                    refine kv_iload dX12_car__156 rfl ?_
                    refine kv_iconst dX12_car__158 3 ki_3 ?_
                    refine kv_icmp_ge dX12_car__159 181 (by decide) (fun h14 => ?_) (fun h14 => ?_)
                    · refine kv_aload_n dX12_car__181 rfl ?_
                      refine kw_gR dX12_car__182 fX12_9 huw8 (by first | rfl | assumption) rfl rfl (by first | rfl | assumption) ?_
                      refine kv_iconst dX12_car__185 0 ki_0 ?_
                      refine kv_dup2 dX12_car__186 rfl rfl ?_
                      refine kw_ig dX12_car__187 huw8 egw8 rfl (_) (show (0 : Int32) = nI 0 from rfl) (by omega) rfl ?_
                      rw [kSet_n (by omega), kSet_n (by omega), kSet_n (by omega), kSet_n (by omega), kSet_n (by omega), kSet_n (by omega), kSet_n (by omega), kSet_n (by omega)]
                      refine kv_iconst dX12_car__188 1 ki_1 ?_
                      refine kv_iadd dX12_car__189 ?_
                      refine kw_isg dX12_car__190 huw8 egw8 evw8 (_) (show (0 : Int32) = nI 0 from rfl) (by omega) (fun vw9 huw9 egw9 evw9 => ?_)
                      refine kv_iload dX12_car__191 rfl ?_
                      exact kv_iret dX12_car__193 rfl (by rw [hS]; exact ⟨rfl, huw9, fun b hb => evw9 b (by omega), hm.now egw9 (fun b hb => evw9 b (by omega)) (evw9 413 (by omega))⟩)
                    · exact absurd h14 (by decide)
            · rw [if_neg (show ¬ a 0 0 < 30 by rw [hw.1, h10]; decide)] at hS
              refine kv_aload_n dX12_car__77 rfl ?_
              refine kv_ldc dX12_car__78 kX12_88 ?_
              refine kw_Vi [_] mX12_finding dX12_car__80 lX12_84 wX12_finding kC12 hu rfl (by first | rfl | assumption) rfl rfl rfl (qX12_finding (by exact hu) 4 (by decide) (by decide) _ (by decide)) (by decide) ?_
              exact kv_iret dX12_car__83 rfl (by rw [hS]; exact kOM.no hm hu rfl)
          · exact absurd h9 (by decide)

theorem kcar_ok {a : KA} (ho : kOk a) (p0 p1 p2 p3 : Int32) : kOk (kcar a p0 p1 p2 p3).2 := by
  unfold kcar
  have hw := ho.1.cnt (k := 0) rfl
  split
  · exact ho.fnd 1
  · rename_i h
    split
    · rename_i h2
      have hlt : kN (a 0) 0 < 30 := by
        rw [hw.1] at h2
        exact (nI_ltI (b := 30) (by omega) (by omega)).mp h2
      obtain ⟨j0, q0, rfl⟩ := kOut.bd (n := 10) (by omega) (fun q => h (Or.inl q))
      obtain ⟨j1, q1, q2, rfl⟩ := kOut.b1 (n := 99999) (by omega) (fun q => h (Or.inr (Or.inl q)))
      obtain ⟨j2, q3, rfl⟩ := kOut.bd (n := 20999) (by omega) (fun q => h (Or.inr (Or.inr (Or.inl q))))
      obtain ⟨j3, q4, rfl⟩ := kOut.bd (n := 255) (by omega) (fun q => h (Or.inr (Or.inr (Or.inr q))))
      refine ho.now (ho.1.addCar hlt (fun i hi => by unfold kcarG; repeat rw [kSet_n (by omega)]) (kUp_suc (by unfold kcarG; rw [kSet_s]; exact congrArg (· + 1) hw.1) hlt) (kN_suc (by unfold kcarG; rw [kSet_s]; exact congrArg (· + 1) hw.1) (by omega)) ⟨?_, ?_, ?_, ?_, ?_, fun m hm => Or.inl ?_⟩)
      · unfold kcarG; (repeat (first | rw [kSet_n (by omega)] | rw [kSet_s])); exact ⟨j0, q0, rfl⟩
      · unfold kcarG; (repeat (first | rw [kSet_n (by omega)] | rw [kSet_s])); exact ⟨j1, q2, rfl⟩
      · unfold kcarG; (repeat (first | rw [kSet_n (by omega)] | rw [kSet_s])); exact kUp_div (d := 1000) (by omega) (by omega) (by omega) (by omega)
      · unfold kcarG; (repeat (first | rw [kSet_n (by omega)] | rw [kSet_s])); exact kUp_rem (d := 1000) (by omega) (by omega) (by omega) (by omega)
      · unfold kcarG; (repeat (first | rw [kSet_n (by omega)] | rw [kSet_s])); exact ⟨j3, q4, rfl⟩
      · rcases (show m = 0 ∨ m = 1 ∨ m = 2 by omega) with rfl | rfl | rfl <;> (unfold kcarG; (repeat (first | rw [kSet_n (by omega)] | rw [kSet_s])))
    · exact ho.fnd 4
def kshapeG (g : Nat → Int32) (p0 p1 p2 : Int32) : Nat → Int32 := (kSet (kSet (kSet (kSet g (280 + 3 * kN g 1) p0) (280 + 3 * kN g 1 + 1) p1) (280 + 3 * kN g 1 + 2) p2) (1) (g 1 + 1))
def kshape (a : KA) (p0 p1 p2 : Int32) : Int32 × KA := if kOut p0 0 65535 ∨ kOut p1 0 65535 ∨ kOut p2 0 100 then (-1000001, kF a 1) else if a 0 1 < 16 then (nI (kN (a 0) 1), kUp1 a 0 (kshapeG (a 0) p0 p1 p2)) else (-1000004, kF a 4)
set_option maxRecDepth 20000 in
set_option maxHeartbeats 4000000 in
theorem qX11_shape {w : KW} {l : Launch} {u : KMem} (hu : kWd u) {a : KA} (hx : kRX a u) (ho : kOk a) (p0 p1 p2 : Int32) : KC w l mX11_shape 2 0 0 [.ref 0, .int p0, .int p1, .int p2] u (kOX u (kshape a p0 p1 p2).1 (kshape a p0 p1 p2).2) := by
  have hr := hx.1
  have hg := ho.1
  have hx20 := (hg.cnt (k := 2) rfl).2
  have hc30 := (hg.cnt (k := 0) rfl).2
  have ht10 := (hg.cnt (k := 3) rfl).2
  have he40 := (hg.cnt (k := 4) rfl).2
  have hs16 := hg.cnt (k := 1) rfl
  refine KC.of (ls := [_, _, _, _, _]) rfl rfl (Nat.le_of_ble_eq_true rfl) ?_
  have hw := hg.cnt (k := 1) rfl
  refine kv_iload_n dX11_shape_0 rfl ?_
  refine kv_iconst dX11_shape_1 0 ki_0 ?_
  refine kv_ldc dX11_shape_2 kX11_120 ?_
  refine kw_Si [_, _, _] mX11_outside dX11_shape_4 lX11_69 wX11_outside rfl rfl rfl (qX11_outside (by exact hu) _ _ _) (by decide) ?_
  refine kw_bne dX11_shape_7 30 (by decide) (fun h1 => ?_) (fun h1 => ?_)
  · have hS : kshape a p0 p1 p2 = (-1000001, kF a 1) := if_pos (Or.inl h1)
    refine kv_aload_n dX11_shape_30 rfl ?_
    refine kv_ldc dX11_shape_31 kX11_74 ?_
    refine kw_Vi [_] mX11_refuse dX11_shape_33 lX11_75 wX11_refuse kC11 hu rfl (by first | rfl | assumption) rfl rfl rfl (qX11_refuse (by exact hu) 1 (by decide) (by decide) _ (by decide)) (by decide) ?_
    exact kv_iret dX11_shape_36 rfl (by rw [hS]; exact kOX.no hx ho hu (by decide) rfl)
  · have n1 : ¬ kOut p0 0 65535 := h1
    refine kv_iload_n dX11_shape_10 rfl ?_
    refine kv_iconst dX11_shape_11 0 ki_0 ?_
    refine kv_ldc dX11_shape_12 kX11_120 ?_
    refine kw_Si [_, _, _] mX11_outside dX11_shape_14 lX11_69 wX11_outside rfl rfl rfl (qX11_outside (by exact hu) _ _ _) (by decide) ?_
    refine kw_bne dX11_shape_17 30 (by decide) (fun h2 => ?_) (fun h2 => ?_)
    · have hS : kshape a p0 p1 p2 = (-1000001, kF a 1) := if_pos (Or.inr (Or.inl h2))
      refine kv_aload_n dX11_shape_30 rfl ?_
      refine kv_ldc dX11_shape_31 kX11_74 ?_
      refine kw_Vi [_] mX11_refuse dX11_shape_33 lX11_75 wX11_refuse kC11 hu rfl (by first | rfl | assumption) rfl rfl rfl (qX11_refuse (by exact hu) 1 (by decide) (by decide) _ (by decide)) (by decide) ?_
      exact kv_iret dX11_shape_36 rfl (by rw [hS]; exact kOX.no hx ho hu (by decide) rfl)
    · have n2 : ¬ kOut p1 0 65535 := h2
      refine kv_iload_n dX11_shape_20 rfl ?_
      refine kv_iconst dX11_shape_21 0 ki_0 ?_
      refine kv_bipush dX11_shape_22 100 kb_100 ?_
      refine kw_Si [_, _, _] mX11_outside dX11_shape_24 lX11_69 wX11_outside rfl rfl rfl (qX11_outside (by exact hu) _ _ _) (by decide) ?_
      refine kw_beq dX11_shape_27 37 (by decide) (fun h3 => ?_) (fun h3 => ?_)
      · have n3 : ¬ kOut p2 0 100 := h3
        have hS : kshape a p0 p1 p2 = _ := if_neg (fun q => q.elim n1 (fun q => q.elim n2 n3))
        refine kv_aload_n dX11_shape_37 rfl ?_
        refine kw_gR dX11_shape_38 fX11_12 hu (by first | rfl | assumption) rfl rfl (by first | rfl | assumption) ?_
        refine kw_gI dX11_shape_41 fX11_121 hu (by first | rfl | assumption) rfl rfl ?_
        rw [hr.n1, hw.1]
        refine kv_istore (ls2 := [_, _, _, _, _]) dX11_shape_44 rfl rfl rfl rfl ?_
        refine kv_iload dX11_shape_46 rfl ?_
        refine kv_bipush dX11_shape_48 16 kb_16 ?_
        refine kv_icmp_lt dX11_shape_50 60 (by decide) (fun h4 => ?_) (fun h4 => ?_)
        · rw [if_pos (show a 0 1 < 16 by rw [hw.1]; exact h4)] at hS
          have hlt : kN (a 0) 1 < 16 := by
            have := h4
            exact (nI_ltI (b := 16) (by omega) (by omega)).mp this
          refine kv_aload_n dX11_shape_60 rfl ?_
          refine kw_gR dX11_shape_61 fX11_12 hu (by first | rfl | assumption) rfl rfl (by first | rfl | assumption) ?_
          refine kw_gR dX11_shape_64 fX11_124 hu (by first | rfl | assumption) rfl rfl (by first | rfl | assumption) ?_
          refine kv_iload dX11_shape_67 rfl ?_
          refine kv_iload_n dX11_shape_69 rfl ?_
          refine kw_is dX11_shape_70 hu (by first | rfl | assumption) (kN (a 0) 1) rfl (by omega) rfl ?_
          refine kv_aload_n dX11_shape_71 rfl ?_
          refine kw_gR dX11_shape_72 fX11_12 hu (by first | rfl | assumption) rfl rfl (by first | rfl | assumption) ?_
          refine kw_gR dX11_shape_75 fX11_127 hu (by first | rfl | assumption) rfl rfl (by first | rfl | assumption) ?_
          refine kv_iload dX11_shape_78 rfl ?_
          refine kv_iload_n dX11_shape_80 rfl ?_
          refine kv_iload_n dX11_shape_81 rfl ?_
          refine kv_ior dX11_shape_82 ?_
          refine kw_is dX11_shape_83 hu (by first | rfl | assumption) (kN (a 0) 1) rfl (by omega) rfl ?_
          refine kv_aload_n dX11_shape_84 rfl ?_
          refine kw_gR dX11_shape_85 fX11_12 hu (by first | rfl | assumption) rfl rfl (by first | rfl | assumption) ?_
          refine kw_gR dX11_shape_88 fX11_130 hu (by first | rfl | assumption) rfl rfl (by first | rfl | assumption) ?_
          refine kv_iload dX11_shape_91 rfl ?_
          refine kv_iload_n dX11_shape_93 rfl ?_
          refine kw_is dX11_shape_94 hu (by first | rfl | assumption) (kN (a 0) 1) rfl (by omega) rfl ?_
          refine kv_aload_n dX11_shape_95 rfl ?_
          refine kw_gR dX11_shape_96 fX11_12 hu (by first | rfl | assumption) rfl rfl (by first | rfl | assumption) ?_
          refine kv_iload dX11_shape_99 rfl ?_
          refine kv_iconst dX11_shape_101 1 ki_1 ?_
          refine kv_iadd dX11_shape_102 ?_
          refine kw_pI dX11_shape_103 fX11_121 hu (by first | rfl | assumption) rfl rfl ?_
          refine kv_iload dX11_shape_106 rfl ?_
          exact kv_iret dX11_shape_108 rfl (by
              rw [hS]
              refine ⟨rfl, hu, (fun b hb => by repeat (first | rw [kv_si_row (by omega)] | rw [kFl_row (by omega)])), hx.now ho (hr.addShape hg hlt (fun i hi => by unfold kshapeG; repeat rw [kSet_n (by omega)]) (fun b k q => by repeat (first | rw [kv_si_n (by omega)] | rw [kFl_n (by omega)])) (by rw [kv_si_s]; unfold kshapeG; rw [kSet_s, hw.1]) (kN_suc (by unfold kshapeG; rw [kSet_s]; exact congrArg (· + 1) hw.1) (by omega)) ⟨?_, ?_, ?_⟩) (fun b k hb _ => by repeat (first | rw [kv_si_n (by omega)] | rw [kFl_n (by omega)]))⟩
              all_goals (unfold kshapeG; (repeat (first | rw [kv_si_n (by omega)] | rw [kFl_n (by omega)] | rw [kSet_n (by omega)] | rw [kv_si_s] | rw [kFl_s (by omega)] | rw [kSet_s]))))
        · rw [if_neg (show ¬ a 0 1 < 16 by rw [hw.1]; exact h4)] at hS
          refine kv_aload_n dX11_shape_53 rfl ?_
          refine kv_ldc dX11_shape_54 kX11_83 ?_
          refine kw_Vi [_] mX11_refuse dX11_shape_56 lX11_75 wX11_refuse kC11 hu rfl (by first | rfl | assumption) rfl rfl rfl (qX11_refuse (by exact hu) 4 (by decide) (by decide) _ (by decide)) (by decide) ?_
          exact kv_iret dX11_shape_59 rfl (by rw [hS]; exact kOX.no hx ho hu (by decide) rfl)
      · have hS : kshape a p0 p1 p2 = (-1000001, kF a 1) := if_pos (Or.inr (Or.inr (h3)))
        refine kv_aload_n dX11_shape_30 rfl ?_
        refine kv_ldc dX11_shape_31 kX11_74 ?_
        refine kw_Vi [_] mX11_refuse dX11_shape_33 lX11_75 wX11_refuse kC11 hu rfl (by first | rfl | assumption) rfl rfl rfl (qX11_refuse (by exact hu) 1 (by decide) (by decide) _ (by decide)) (by decide) ?_
        exact kv_iret dX11_shape_36 rfl (by rw [hS]; exact kOX.no hx ho hu (by decide) rfl)

set_option maxRecDepth 20000 in
set_option maxHeartbeats 4000000 in
theorem qX12_shape {w : KW} {l : Launch} {u : KMem} (hu : kWd u) {a : KA} (hm : kRM a u) (ho : kOk a) (p0 p1 p2 : Int32) : KC w l mX12_shape 1 0 0 [.ref 413, .int p0, .int p1, .int p2] u (kOM u (kshape a p0 p1 p2).1 (kshape a p0 p1 p2).2) := by
  have eg := hm.1
  have hg := ho.1
  have hx20 := (hg.cnt (k := 2) rfl).2
  have hc30 := (hg.cnt (k := 0) rfl).2
  have ht10 := (hg.cnt (k := 3) rfl).2
  have he40 := (hg.cnt (k := 4) rfl).2
  have hs16 := hg.cnt (k := 1) rfl
  refine KC.of (ls := [_, _, _, _, _]) rfl rfl (Nat.le_of_ble_eq_true rfl) ?_
  have hw := hg.cnt (k := 1) rfl
  refine kv_iload_n dX12_shape_0 rfl ?_
  refine kv_iconst dX12_shape_1 0 ki_0 ?_
  refine kv_ldc dX12_shape_2 kX12_103 ?_
  refine kw_Si [_, _, _] mX12_within dX12_shape_4 lX12_78 wX12_within rfl rfl rfl (qX12_within (by exact hu) _ _ _) (by decide) ?_
  refine kw_beq dX12_shape_7 30 (by decide) (fun h1 => ?_) (fun h1 => ?_)
  · have hS : kshape a p0 p1 p2 = (-1000001, kF a 1) := if_pos (Or.inl (kIn_n h1))
    refine kv_aload_n dX12_shape_30 rfl ?_
    refine kv_ldc dX12_shape_31 kX12_83 ?_
    refine kw_Vi [_] mX12_finding dX12_shape_33 lX12_84 wX12_finding kC12 hu rfl (by first | rfl | assumption) rfl rfl rfl (qX12_finding (by exact hu) 1 (by decide) (by decide) _ (by decide)) (by decide) ?_
    exact kv_iret dX12_shape_36 rfl (by rw [hS]; exact kOM.no hm hu rfl)
  · have n1 : ¬ kOut p0 0 65535 := kIn_y h1
    refine kv_iload_n dX12_shape_10 rfl ?_
    refine kv_iconst dX12_shape_11 0 ki_0 ?_
    refine kv_ldc dX12_shape_12 kX12_103 ?_
    refine kw_Si [_, _, _] mX12_within dX12_shape_14 lX12_78 wX12_within rfl rfl rfl (qX12_within (by exact hu) _ _ _) (by decide) ?_
    refine kw_beq dX12_shape_17 30 (by decide) (fun h2 => ?_) (fun h2 => ?_)
    · have hS : kshape a p0 p1 p2 = (-1000001, kF a 1) := if_pos (Or.inr (Or.inl (kIn_n h2)))
      refine kv_aload_n dX12_shape_30 rfl ?_
      refine kv_ldc dX12_shape_31 kX12_83 ?_
      refine kw_Vi [_] mX12_finding dX12_shape_33 lX12_84 wX12_finding kC12 hu rfl (by first | rfl | assumption) rfl rfl rfl (qX12_finding (by exact hu) 1 (by decide) (by decide) _ (by decide)) (by decide) ?_
      exact kv_iret dX12_shape_36 rfl (by rw [hS]; exact kOM.no hm hu rfl)
    · have n2 : ¬ kOut p1 0 65535 := kIn_y h2
      refine kv_iload_n dX12_shape_20 rfl ?_
      refine kv_iconst dX12_shape_21 0 ki_0 ?_
      refine kv_bipush dX12_shape_22 100 kb_100 ?_
      refine kw_Si [_, _, _] mX12_within dX12_shape_24 lX12_78 wX12_within rfl rfl rfl (qX12_within (by exact hu) _ _ _) (by decide) ?_
      refine kw_bne dX12_shape_27 37 (by decide) (fun h3 => ?_) (fun h3 => ?_)
      · have n3 : ¬ kOut p2 0 100 := kIn_y h3
        have hS : kshape a p0 p1 p2 = _ := if_neg (fun q => q.elim n1 (fun q => q.elim n2 n3))
        refine kv_aload_n dX12_shape_37 rfl ?_
        refine kw_gR dX12_shape_38 fX12_9 hu (by first | rfl | assumption) rfl rfl (by first | rfl | assumption) ?_
        refine kv_iconst dX12_shape_41 1 ki_1 ?_
        refine kw_ig dX12_shape_42 hu eg rfl (_) (show (1 : Int32) = nI 1 from rfl) (by omega) rfl ?_
        rw [hw.1]
        refine kv_istore (ls2 := [_, _, _, _, _]) dX12_shape_43 rfl rfl rfl rfl ?_
        refine kv_iload dX12_shape_45 rfl ?_
        refine kv_bipush dX12_shape_47 16 kb_16 ?_
        refine kv_icmp_ne dX12_shape_49 59 (by decide) (fun h4 => ?_) (fun h4 => ?_)
        · have hlt : kN (a 0) 1 < 16 := by
            refine Nat.lt_of_le_of_ne hw.2 (fun q => h4 ?_)
            rw [q]
            rfl
          rw [if_pos (show a 0 1 < 16 by rw [hw.1]; exact nI_lt (b := 16) hlt (by omega))] at hS
          refine kv_aload_n dX12_shape_59 rfl ?_
          refine kw_gR dX12_shape_60 fX12_9 hu (by first | rfl | assumption) rfl rfl (by first | rfl | assumption) ?_
          refine kv_sipush dX12_shape_63 280 kz_280 ?_
          refine kv_iconst dX12_shape_66 3 ki_3 ?_
          refine kv_iload dX12_shape_67 rfl ?_
          refine kv_imul dX12_shape_69 ?_
          refine kv_iadd dX12_shape_70 ?_
          refine kv_iload_n dX12_shape_71 rfl ?_
          refine kw_isg dX12_shape_72 hu eg (fun _ _ => rfl) (_) (kn_add (show (280 : Int32) = nI 280 from rfl) (kn_mul (show (3 : Int32) = nI 3 from rfl) rfl)) (by omega) (fun vw1 huw1 egw1 evw1 => ?_)
          refine kv_aload_n dX12_shape_73 rfl ?_
          refine kw_gR dX12_shape_74 fX12_9 huw1 (by first | rfl | assumption) rfl rfl (by first | rfl | assumption) ?_
          refine kv_sipush dX12_shape_77 280 kz_280 ?_
          refine kv_iconst dX12_shape_80 3 ki_3 ?_
          refine kv_iload dX12_shape_81 rfl ?_
          refine kv_imul dX12_shape_83 ?_
          refine kv_iadd dX12_shape_84 ?_
          refine kv_iconst dX12_shape_85 1 ki_1 ?_
          refine kv_iadd dX12_shape_86 ?_
          refine kv_iload_n dX12_shape_87 rfl ?_
          refine kw_isg dX12_shape_88 huw1 egw1 evw1 (_) (kn_add (kn_add (show (280 : Int32) = nI 280 from rfl) (kn_mul (show (3 : Int32) = nI 3 from rfl) rfl)) (show (1 : Int32) = nI 1 from rfl)) (by omega) (fun vw2 huw2 egw2 evw2 => ?_)
          refine kv_aload_n dX12_shape_89 rfl ?_
          refine kw_gR dX12_shape_90 fX12_9 huw2 (by first | rfl | assumption) rfl rfl (by first | rfl | assumption) ?_
          refine kv_sipush dX12_shape_93 280 kz_280 ?_
          refine kv_iconst dX12_shape_96 3 ki_3 ?_
          refine kv_iload dX12_shape_97 rfl ?_
          refine kv_imul dX12_shape_99 ?_
          refine kv_iadd dX12_shape_100 ?_
          refine kv_iconst dX12_shape_101 2 ki_2 ?_
          refine kv_iadd dX12_shape_102 ?_
          refine kv_iload_n dX12_shape_103 rfl ?_
          refine kw_isg dX12_shape_104 huw2 egw2 evw2 (_) (kn_add (kn_add (show (280 : Int32) = nI 280 from rfl) (kn_mul (show (3 : Int32) = nI 3 from rfl) rfl)) (show (2 : Int32) = nI 2 from rfl)) (by omega) (fun vw3 huw3 egw3 evw3 => ?_)
          refine kv_aload_n dX12_shape_105 rfl ?_
          refine kw_gR dX12_shape_106 fX12_9 huw3 (by first | rfl | assumption) rfl rfl (by first | rfl | assumption) ?_
          refine kv_iconst dX12_shape_109 1 ki_1 ?_
          refine kv_dup2 dX12_shape_110 rfl rfl ?_
          refine kw_ig dX12_shape_111 huw3 egw3 rfl (_) (show (1 : Int32) = nI 1 from rfl) (by omega) rfl ?_
          rw [kSet_n (by omega), kSet_n (by omega), kSet_n (by omega)]
          refine kv_iconst dX12_shape_112 1 ki_1 ?_
          refine kv_iadd dX12_shape_113 ?_
          refine kw_isg dX12_shape_114 huw3 egw3 evw3 (_) (show (1 : Int32) = nI 1 from rfl) (by omega) (fun vw4 huw4 egw4 evw4 => ?_)
          refine kv_iload dX12_shape_115 rfl ?_
          exact kv_iret dX12_shape_117 rfl (by rw [hS]; exact ⟨rfl, huw4, fun b hb => evw4 b (by omega), hm.now egw4 (fun b hb => evw4 b (by omega)) (evw4 413 (by omega))⟩)
        · rw [if_neg (show ¬ a 0 1 < 16 by rw [hw.1, h4]; decide)] at hS
          refine kv_aload_n dX12_shape_52 rfl ?_
          refine kv_ldc dX12_shape_53 kX12_88 ?_
          refine kw_Vi [_] mX12_finding dX12_shape_55 lX12_84 wX12_finding kC12 hu rfl (by first | rfl | assumption) rfl rfl rfl (qX12_finding (by exact hu) 4 (by decide) (by decide) _ (by decide)) (by decide) ?_
          exact kv_iret dX12_shape_58 rfl (by rw [hS]; exact kOM.no hm hu rfl)
      · have hS : kshape a p0 p1 p2 = (-1000001, kF a 1) := if_pos (Or.inr (Or.inr ((kIn_n h3))))
        refine kv_aload_n dX12_shape_30 rfl ?_
        refine kv_ldc dX12_shape_31 kX12_83 ?_
        refine kw_Vi [_] mX12_finding dX12_shape_33 lX12_84 wX12_finding kC12 hu rfl (by first | rfl | assumption) rfl rfl rfl (qX12_finding (by exact hu) 1 (by decide) (by decide) _ (by decide)) (by decide) ?_
        exact kv_iret dX12_shape_36 rfl (by rw [hS]; exact kOM.no hm hu rfl)

theorem kshape_ok {a : KA} (ho : kOk a) (p0 p1 p2 : Int32) : kOk (kshape a p0 p1 p2).2 := by
  unfold kshape
  have hw := ho.1.cnt (k := 1) rfl
  split
  · exact ho.fnd 1
  · rename_i h
    split
    · rename_i h2
      have hlt : kN (a 0) 1 < 16 := by
        rw [hw.1] at h2
        exact (nI_ltI (b := 16) (by omega) (by omega)).mp h2
      refine ho.now (ho.1.addShape hlt (fun i hi => by unfold kshapeG; repeat rw [kSet_n (by omega)]) (kUp_suc (by unfold kshapeG; rw [kSet_s]; exact congrArg (· + 1) hw.1) hlt) (kN_suc (by unfold kshapeG; rw [kSet_s]; exact congrArg (· + 1) hw.1) (by omega)) ⟨?_, ?_, ?_⟩)
      · unfold kshapeG; (repeat (first | rw [kSet_n (by omega)] | rw [kSet_s])); exact kOut.bd (n := 65535) (by omega) (fun q => h (Or.inl q))
      · unfold kshapeG; (repeat (first | rw [kSet_n (by omega)] | rw [kSet_s])); exact kOut.bd (n := 65535) (by omega) (fun q => h (Or.inr (Or.inl q)))
      · unfold kshapeG; (repeat (first | rw [kSet_n (by omega)] | rw [kSet_s])); exact kOut.bd (n := 100) (by omega) (fun q => h (Or.inr (Or.inr q)))
    · exact ho.fnd 4
