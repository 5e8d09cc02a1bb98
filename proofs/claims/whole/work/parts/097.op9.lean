/-! enter -/
set_option maxRecDepth 20000 in
set_option maxHeartbeats 4000000 in
theorem qX2_become {w : KW} {l : Launch} {u : KMem} (hu : kWd u) (e : Nat) (he : e < 40) (p0 p1 p2 p3 : Int32) : KC w l mX2_become 0 0 0 [.ref (1 + (152 + e)), .int p0, .int p1, .int p2, .int p3] u (kq none (kv_si (kv_si (kv_si (kv_si (kv_si u (1 + (152 + e)) 0 p0) (1 + (152 + e)) 1 p1) (1 + (152 + e)) 2 p2) (1 + (152 + e)) 3 (p3 / 1000)) (1 + (152 + e)) 4 (p3 - p3 / 1000 * 1000))) := by
  refine KC.of (ls := [_, _, _, _, _]) rfl rfl (Nat.le_of_ble_eq_true rfl) ?_
  have ke := ks_entry e he
  have ke1 := ke.1
  refine kv_aload_n dX2_become_0 rfl ?_
  refine kv_iload_n dX2_become_1 rfl ?_
  refine kw_pI dX2_become_2 fX2_7 hu (by first | rfl | assumption) rfl rfl ?_
  refine kv_aload_n dX2_become_5 rfl ?_
  refine kv_iload_n dX2_become_6 rfl ?_
  refine kw_pI dX2_become_7 fX2_13 hu (by first | rfl | assumption) rfl rfl ?_
  refine kv_aload_n dX2_become_10 rfl ?_
  refine kv_iload_n dX2_become_11 rfl ?_
  refine kw_pI dX2_become_12 fX2_16 hu (by first | rfl | assumption) rfl rfl ?_
  refine kv_aload_n dX2_become_15 rfl ?_
  refine kv_iload dX2_become_16 rfl ?_
  refine kv_sipush dX2_become_18 1000 kz_1000 ?_
  refine kv_idiv dX2_become_21 (by decide) ?_
  refine kw_pI dX2_become_22 fX2_19 hu (by first | rfl | assumption) rfl rfl ?_
  refine kv_aload_n dX2_become_25 rfl ?_
  refine kv_iload dX2_become_26 rfl ?_
  refine kv_sipush dX2_become_28 1000 kz_1000 ?_
  refine kv_irem dX2_become_31 (by decide) ?_
  refine kw_pI dX2_become_32 fX2_22 hu (by first | rfl | assumption) rfl rfl ?_
  exact kv_vret dX2_become_35 rfl ⟨rfl, rfl⟩

set_option maxRecDepth 20000 in
set_option maxHeartbeats 4000000 in
theorem qX7_firstEntry {w : KW} {l : Launch} {u : KMem} (hu : kWd u) (n : Nat) (hn : n < 40) (p0 p1 : Int32) (g : Nat → Int32) (h0 : ∀ i, i < n → u.2.1 (1 + (152 + i)) 0 = g (1128 + 5 * i + 0)) (h1 : ∀ i, i < n → u.2.1 (1 + (152 + i)) 1 = g (1128 + 5 * i + 1)) (e0 : g (1128 + 5 * n + 0) = p0) (e1 : g (1128 + 5 * n + 1) = p1) : KC w l mX7_firstEntry 0 0 0 [.ref 1, .int p0, .int p1, .int (nI n)] u (kq (some (.int (nI (kFst g n)))) u) := by
  refine KC.of (ls := [_, _, _, _, _]) rfl rfl (Nat.le_of_ble_eq_true rfl) ?_
  refine kv_iconst dX7_firstEntry_0 0 ki_0 ?_
  refine kv_istore (ls2 := [_, _, _, _, _]) dX7_firstEntry_1 rfl rfl rfl rfl ?_
  refine KV.loc (ls2 := [some (.ref 1), some (.int p0), some (.int p1), some (.int (nI n)), some (.int (nI (0)))]) ?_ (ksS rfl (ksS rfl (ksS rfl (ksS rfl (ksS rfl ksN)))))
  refine kn_loop (P := fun i => (kFst g n = kFstA g n (n - i) i → KV w l mX7_firstEntry 0 0 0 3 [some (.ref 1), some (.int p0), some (.int p1), some (.int (nI n)), some (.int (nI i))] [] u (kq (some (.int (nI (kFst g n)))) u))) (n) ?_ (fun i hi ih => ?_) rfl
  · intro hF
    refine kv_iload dX7_firstEntry_3 rfl ?_
    refine kv_iload_n dX7_firstEntry_5 rfl ?_
    refine kv_icmp_ge dX7_firstEntry_6 53 (by decide) (fun h1 => ?_) (fun h1 => ?_)
    · refine kv_iload_n dX7_firstEntry_53 rfl ?_
      exact kv_iret dX7_firstEntry_54 rfl ⟨by rw [hF, Nat.sub_self]; rfl, rfl⟩
    · exact absurd h1 (fun q => q (Int32.le_refl _))
  · intro hF
    have hF2 : kFst g n = if g (1128 + 5 * i + 0) = g (1128 + 5 * n + 0) ∧ g (1128 + 5 * i + 1) = g (1128 + 5 * n + 1) then i else kFstA g n (n - (i + 1)) (i + 1) := by
      rw [hF, show n - i = n - (i + 1) + 1 by omega]
      rfl
    rw [e0, e1] at hF2
    have ke := ks_entry i (by omega)
    have ke1 := ke.1
    have ke2 := ke.2
    refine kv_iload dX7_firstEntry_3 rfl ?_
    refine kv_iload_n dX7_firstEntry_5 rfl ?_
    refine kv_icmp_ge dX7_firstEntry_6 53 (by decide) (fun h2 => ?_) (fun h2 => ?_)
    · exact absurd h2 (kn_ge hi (by omega))
    · refine kv_iload dX7_firstEntry_9 rfl ?_
      refine kv_bipush dX7_firstEntry_11 40 kb_40 ?_
      refine kv_icmp_ge dX7_firstEntry_13 53 (by decide) (fun h3 => ?_) (fun h3 => ?_)
      · exact absurd h3 (kn_ge (n := 40) (by omega) (by omega))
      · refine kv_aload_n dX7_firstEntry_16 rfl ?_
        refine kw_gR dX7_firstEntry_17 fX7_41 hu (by first | rfl | assumption) rfl rfl (by first | rfl | assumption) ?_
        refine kv_iload dX7_firstEntry_20 rfl ?_
        refine kw_al (t := 3) (n := 40) dX7_firstEntry_22 hu rfl rfl (i) rfl (by omega) rfl (by first | rfl | assumption) ?_
        refine kw_gI dX7_firstEntry_23 fX7_117 hu (by first | rfl | assumption) rfl rfl ?_
        rw [h0 i hi]
        refine kv_iload_n dX7_firstEntry_26 rfl ?_
        refine kv_icmp_ne dX7_firstEntry_27 47 (by decide) (fun h4 => ?_) (fun h4 => ?_)
        · have hG := hF2
          rw [if_neg (fun q => h4 q.1)] at hG
          refine kv_iinc (ls2 := [_, _, _, _, _]) dX7_firstEntry_47 (nI (i + 1)) rfl (kv_inc1 i) rfl rfl rfl rfl ?_
          refine kv_goto dX7_firstEntry_50 3 (by decide) ?_
          exact KV.loc (ih hG) (ksS rfl (ksS rfl (ksS rfl (ksS rfl (ksS rfl ksN)))))
        · have q0 := h4
          refine kv_aload_n dX7_firstEntry_30 rfl ?_
          refine kw_gR dX7_firstEntry_31 fX7_41 hu (by first | rfl | assumption) rfl rfl (by first | rfl | assumption) ?_
          refine kv_iload dX7_firstEntry_34 rfl ?_
          refine kw_al (t := 3) (n := 40) dX7_firstEntry_36 hu rfl rfl (i) rfl (by omega) rfl (by first | rfl | assumption) ?_
          refine kw_gI dX7_firstEntry_37 fX7_120 hu (by first | rfl | assumption) rfl rfl ?_
          rw [h1 i hi]
          refine kv_iload_n dX7_firstEntry_40 rfl ?_
          refine kv_icmp_ne dX7_firstEntry_41 47 (by decide) (fun h5 => ?_) (fun h5 => ?_)
          · have hG := hF2
            rw [if_neg (fun q => h5 q.2)] at hG
            refine kv_iinc (ls2 := [_, _, _, _, _]) dX7_firstEntry_47 (nI (i + 1)) rfl (kv_inc1 i) rfl rfl rfl rfl ?_
            refine kv_goto dX7_firstEntry_50 3 (by decide) ?_
            exact KV.loc (ih hG) (ksS rfl (ksS rfl (ksS rfl (ksS rfl (ksS rfl ksN)))))
          · have q1 := h5
            refine kv_iload dX7_firstEntry_44 rfl ?_
            exact kv_iret dX7_firstEntry_46 rfl ⟨by rw [hF2, if_pos ⟨q0, q1⟩], rfl⟩

def kenterG (g : Nat → Int32) (p0 p1 p2 p3 : Int32) : Nat → Int32 := (kSet (kSet (kSet (kSet (kSet (kSet g (1128 + 5 * kN g 4 + 0) p0) (1128 + 5 * kN g 4 + 1) p1) (1128 + 5 * kN g 4 + 2) p2) (1128 + 5 * kN g 4 + 3) (p3 / 1000)) (1128 + 5 * kN g 4 + 4) (p3 - p3 / 1000 * 1000)) (4) (g 4 + 1))
def kenter (a : KA) (p0 p1 p2 p3 : Int32) : Int32 × KA := if (kOut p0 0 (a 0 2 - 1) ∨ kOut p1 0 1) ∨ kOut p2 0 999999 ∨ kOut p3 0 33999 then (-1000001, kF a 1) else if a 0 4 < 40 then (nI (kN (a 0) 4), kUp1 a 0 (kenterG (a 0) p0 p1 p2 p3)) else (-1000004, kF a 4)
set_option maxRecDepth 20000 in
set_option maxHeartbeats 4000000 in
theorem qX11_enter {w : KW} {l : Launch} {u : KMem} (hu : kWd u) {a : KA} (hx : kRX a u) (ho : kOk a) (p0 p1 p2 p3 : Int32) : KC w l mX11_enter 3 0 0 [.ref 0, .int p0, .int p1, .int p2, .int p3] u (kOX u (kenter a p0 p1 p2 p3).1 (kenter a p0 p1 p2 p3).2) := by
  have hr := hx.1
  have hg := ho.1
  have hx20 := (hg.cnt (k := 2) rfl).2
  have hc30 := (hg.cnt (k := 0) rfl).2
  have ht10 := (hg.cnt (k := 3) rfl).2
  have he40 := (hg.cnt (k := 4) rfl).2
  have hs16 := hg.cnt (k := 1) rfl
  refine KC.of (ls := [_, _, _, _, _, _, _]) rfl rfl (Nat.le_of_ble_eq_true rfl) ?_
  have hw := hg.cnt (k := 4) rfl
  refine kv_aload_n dX11_enter_0 rfl ?_
  refine kv_iload_n dX11_enter_1 rfl ?_
  refine kv_iload_n dX11_enter_2 rfl ?_
  refine kw_Vi [_, _] mX11_noSide dX11_enter_3 lX11_144 wX11_noSide kC11 hu rfl (by first | rfl | assumption) rfl rfl rfl (qX11_noSide hu _ _) (by decide) ?_
  refine kw_bne dX11_enter_6 30 (by decide) (fun h1 => ?_) (fun h1 => ?_)
  · rw [hr.n2] at h1
    have hS : kenter a p0 p1 p2 p3 = (-1000001, kF a 1) := if_pos (Or.inl h1)
    refine kv_aload_n dX11_enter_30 rfl ?_
    refine kv_ldc dX11_enter_31 kX11_74 ?_
    refine kw_Vi [_] mX11_refuse dX11_enter_33 lX11_75 wX11_refuse kC11 hu rfl (by first | rfl | assumption) rfl rfl rfl (qX11_refuse hu 1 (by decide) (by decide) _ (by decide)) (by decide) ?_
    exact kv_iret dX11_enter_36 rfl (by rw [hS]; exact kOX.no hx ho hu (by decide) rfl)
  · rw [hr.n2] at h1
    have n1 : ¬ (kOut p0 0 (a 0 2 - 1) ∨ kOut p1 0 1) := h1
    refine kv_iload_n dX11_enter_9 rfl ?_
    refine kv_iconst dX11_enter_10 0 ki_0 ?_
    refine kv_ldc dX11_enter_11 kX11_217 ?_
    refine kw_Si [_, _, _] mX11_outside dX11_enter_13 lX11_69 wX11_outside rfl rfl rfl (qX11_outside hu _ _ _) (by decide) ?_
    refine kw_bne dX11_enter_16 30 (by decide) (fun h2 => ?_) (fun h2 => ?_)
    · have hS : kenter a p0 p1 p2 p3 = (-1000001, kF a 1) := if_pos (Or.inr (Or.inl h2))
      refine kv_aload_n dX11_enter_30 rfl ?_
      refine kv_ldc dX11_enter_31 kX11_74 ?_
      refine kw_Vi [_] mX11_refuse dX11_enter_33 lX11_75 wX11_refuse kC11 hu rfl (by first | rfl | assumption) rfl rfl rfl (qX11_refuse hu 1 (by decide) (by decide) _ (by decide)) (by decide) ?_
      exact kv_iret dX11_enter_36 rfl (by rw [hS]; exact kOX.no hx ho hu (by decide) rfl)
    · have n2 : ¬ kOut p2 0 999999 := h2
      refine kv_iload dX11_enter_19 rfl ?_
      refine kv_iconst dX11_enter_21 0 ki_0 ?_
      refine kv_ldc dX11_enter_22 kX11_255 ?_
      refine kw_Si [_, _, _] mX11_outside dX11_enter_24 lX11_69 wX11_outside rfl rfl rfl (qX11_outside hu _ _ _) (by decide) ?_
      refine kw_beq dX11_enter_27 37 (by decide) (fun h3 => ?_) (fun h3 => ?_)
      · have n3 : ¬ kOut p3 0 33999 := h3
        have hS : kenter a p0 p1 p2 p3 = _ := if_neg (fun q => q.elim n1 (fun q => q.elim n2 n3))
        refine kv_aload_n dX11_enter_37 rfl ?_
        refine kw_gR dX11_enter_38 fX11_12 hu (by first | rfl | assumption) rfl rfl (by first | rfl | assumption) ?_
        refine kw_gI dX11_enter_41 fX11_256 hu (by first | rfl | assumption) rfl rfl ?_
        rw [hr.n4, hw.1]
        refine kv_istore (ls2 := [_, _, _, _, _, _, _]) dX11_enter_44 rfl rfl rfl rfl ?_
        refine kv_iload dX11_enter_46 rfl ?_
        refine kv_bipush dX11_enter_48 40 kb_40 ?_
        refine kv_icmp_lt dX11_enter_50 60 (by decide) (fun h4 => ?_) (fun h4 => ?_)
        · rw [if_pos (show a 0 4 < 40 by rw [hw.1]; exact h4)] at hS
          have hlt : kN (a 0) 4 < 40 := (nI_ltI (b := 40) (by omega) (by omega)).mp h4
          have ke := ks_entry (kN (a 0) 4) hlt
          have ke1 := ke.1
          have ke2 := ke.2
          refine kv_aload_n dX11_enter_60 rfl ?_
          refine kw_gR dX11_enter_61 fX11_12 hu (by first | rfl | assumption) rfl rfl (by first | rfl | assumption) ?_
          refine kw_gR dX11_enter_64 fX11_259 hu (by first | rfl | assumption) rfl rfl (by first | rfl | assumption) ?_
          refine kv_iload dX11_enter_67 rfl ?_
          refine kw_al (t := 3) (n := 40) dX11_enter_69 hu rfl rfl (kN (a 0) 4) rfl (by omega) rfl (by first | rfl | assumption) ?_
          refine kv_astore (ls2 := [_, _, _, _, _, _, _]) dX11_enter_70 rfl rfl rfl rfl ?_
          refine kv_aload dX11_enter_72 rfl ?_
          refine kv_iload_n dX11_enter_74 rfl ?_
          refine kv_iload_n dX11_enter_75 rfl ?_
          refine kv_iload_n dX11_enter_76 rfl ?_
          refine kv_iload dX11_enter_77 rfl ?_
          refine kw_Vv [_, _, _, _] mX2_become dX11_enter_79 lX11_263 wX2_become kC2 hu rfl (by first | rfl | assumption) rfl rfl rfl (qX2_become hu (kN (a 0) 4) hlt _ _ _ _) (by decide) ?_
          refine kv_aload dX11_enter_82 rfl ?_
          refine kv_aload_n dX11_enter_84 rfl ?_
          refine kw_gR dX11_enter_85 fX11_12 hu (by first | rfl | assumption) rfl rfl (by first | rfl | assumption) ?_
          refine kv_iload_n dX11_enter_88 rfl ?_
          refine kv_iload_n dX11_enter_89 rfl ?_
          refine kv_iload dX11_enter_90 rfl ?_
          refine kw_Vi [_, _, _] mX7_firstEntry dX11_enter_92 lX11_266 wX7_firstEntry kC7 hu rfl (by first | rfl | assumption) rfl rfl rfl (qX7_firstEntry (by exact hu) (kN (a 0) 4) hlt p0 p1 (kenterG (a 0) p0 p1 p2 p3) (fun i hi => by rw [kv_si_n (by omega), kv_si_n (by omega), kv_si_n (by omega), kv_si_n (by omega), kv_si_n (by omega), hr.ent hi 0 (by omega)]; unfold kenterG; repeat rw [kSet_n (by omega)]) (fun i hi => by rw [kv_si_n (by omega), kv_si_n (by omega), kv_si_n (by omega), kv_si_n (by omega), kv_si_n (by omega), hr.ent hi 1 (by omega)]; unfold kenterG; repeat rw [kSet_n (by omega)]) (by unfold kenterG; (repeat (first | rw [kSet_n (by omega)] | rw [kSet_s]))) (by unfold kenterG; (repeat (first | rw [kSet_n (by omega)] | rw [kSet_s])))) (by decide) ?_
          refine kw_pI dX11_enter_95 fX11_270 hu (by first | rfl | assumption) rfl rfl ?_
          refine kv_aload_n dX11_enter_98 rfl ?_
          refine kw_gR dX11_enter_99 fX11_12 hu (by first | rfl | assumption) rfl rfl (by first | rfl | assumption) ?_
          refine kv_iload dX11_enter_102 rfl ?_
          refine kv_iconst dX11_enter_104 1 ki_1 ?_
          refine kv_iadd dX11_enter_105 ?_
          refine kw_pI dX11_enter_106 fX11_256 hu (by first | rfl | assumption) rfl rfl ?_
          refine kv_iload dX11_enter_109 rfl ?_
          exact kv_iret dX11_enter_111 rfl (by
              rw [hS]
              refine ⟨rfl, hu, (fun b hb => by repeat (first | rw [kv_si_row (by omega)] | rw [kFl_row (by omega)])), hx.now ho (hr.addEntry hg hlt (fun i hi => by unfold kenterG; repeat rw [kSet_n (by omega)]) (fun b k q => by repeat (first | rw [kv_si_n (by omega)] | rw [kFl_n (by omega)])) (by rw [kv_si_s]; unfold kenterG; rw [kSet_s, hw.1]) (kN_suc (by unfold kenterG; rw [kSet_s]; exact congrArg (· + 1) hw.1) (by omega)) ⟨fun f hf => ?_, ?_⟩) (fun b k hb _ => by repeat (first | rw [kv_si_n (by omega)] | rw [kFl_n (by omega)]))⟩
              · rcases (show f = 0 ∨ f = 1 ∨ f = 2 ∨ f = 3 ∨ f = 4 by omega) with rfl | rfl | rfl | rfl | rfl <;> (unfold kenterG; (repeat (first | rw [kv_si_n (by omega)] | rw [kFl_n (by omega)] | rw [kSet_n (by omega)] | rw [kv_si_s] | rw [kFl_s (by omega)] | rw [kSet_s])))
              · rw [kv_si_n (by omega), kv_si_s])
        · rw [if_neg (show ¬ a 0 4 < 40 by rw [hw.1]; exact h4)] at hS
          refine kv_aload_n dX11_enter_53 rfl ?_
          refine kv_ldc dX11_enter_54 kX11_83 ?_
          refine kw_Vi [_] mX11_refuse dX11_enter_56 lX11_75 wX11_refuse kC11 hu rfl (by first | rfl | assumption) rfl rfl rfl (qX11_refuse hu 4 (by decide) (by decide) _ (by decide)) (by decide) ?_
          exact kv_iret dX11_enter_59 rfl (by rw [hS]; exact kOX.no hx ho hu (by decide) rfl)
      · have hS : kenter a p0 p1 p2 p3 = (-1000001, kF a 1) := if_pos (Or.inr (Or.inr (h3)))
        refine kv_aload_n dX11_enter_30 rfl ?_
        refine kv_ldc dX11_enter_31 kX11_74 ?_
        refine kw_Vi [_] mX11_refuse dX11_enter_33 lX11_75 wX11_refuse kC11 hu rfl (by first | rfl | assumption) rfl rfl rfl (qX11_refuse hu 1 (by decide) (by decide) _ (by decide)) (by decide) ?_
        exact kv_iret dX11_enter_36 rfl (by rw [hS]; exact kOX.no hx ho hu (by decide) rfl)

set_option maxRecDepth 20000 in
set_option maxHeartbeats 4000000 in
theorem qX12_enter {w : KW} {l : Launch} {u : KMem} (hu : kWd u) {a : KA} (hm : kRM a u) (ho : kOk a) (p0 p1 p2 p3 : Int32) : KC w l mX12_enter 2 0 0 [.ref 413, .int p0, .int p1, .int p2, .int p3] u (kOM u (kenter a p0 p1 p2 p3).1 (kenter a p0 p1 p2 p3).2) := by
  have eg := hm.1
  have hg := ho.1
  have hx20 := (hg.cnt (k := 2) rfl).2
  have hc30 := (hg.cnt (k := 0) rfl).2
  have ht10 := (hg.cnt (k := 3) rfl).2
  have he40 := (hg.cnt (k := 4) rfl).2
  have hs16 := hg.cnt (k := 1) rfl
  refine KC.of (ls := [_, _, _, _, _, _, _]) rfl rfl (Nat.le_of_ble_eq_true rfl) ?_
  have hw := hg.cnt (k := 4) rfl
  refine kv_aload_n dX12_enter_0 rfl ?_
  refine kv_iload_n dX12_enter_1 rfl ?_
  refine kv_iconst dX12_enter_2 2 ki_2 ?_
  refine kw_Vi [_, _] mX12_is dX12_enter_3 lX12_93 wX12_is kC12 hu rfl (by first | rfl | assumption) rfl rfl rfl (gX12_is hu eg _ 2 (by omega)) (by decide) ?_
  refine kw_beq dX12_enter_6 38 (by decide) (fun h1 => ?_) (fun h1 => ?_)
  · have hS : kenter a p0 p1 p2 p3 = (-1000001, kF a 1) := if_pos (Or.inl (Or.inl (kIn_n h1)))
    refine kv_aload_n dX12_enter_38 rfl ?_
    refine kv_ldc dX12_enter_39 kX12_83 ?_
    refine kw_Vi [_] mX12_finding dX12_enter_41 lX12_84 wX12_finding kC12 hu rfl (by first | rfl | assumption) rfl rfl rfl (qX12_finding hu 1 (by decide) (by decide) _ (by decide)) (by decide) ?_
    exact kv_iret dX12_enter_44 rfl (by rw [hS]; exact kOM.no hm hu rfl)
  · have n1a : ¬ kOut p0 0 (a 0 2 - 1) := kIn_y h1
    refine kv_iload_n dX12_enter_9 rfl ?_
    refine kw_Si [_] mX12_isSide dX12_enter_10 lX12_105 wX12_isSide rfl rfl rfl (qX12_isSide hu _) (by decide) ?_
    refine kw_beq dX12_enter_13 38 (by decide) (fun h2 => ?_) (fun h2 => ?_)
    · have hS : kenter a p0 p1 p2 p3 = (-1000001, kF a 1) := if_pos (Or.inl (Or.inr (kIn_n h2)))
      refine kv_aload_n dX12_enter_38 rfl ?_
      refine kv_ldc dX12_enter_39 kX12_83 ?_
      refine kw_Vi [_] mX12_finding dX12_enter_41 lX12_84 wX12_finding kC12 hu rfl (by first | rfl | assumption) rfl rfl rfl (qX12_finding hu 1 (by decide) (by decide) _ (by decide)) (by decide) ?_
      exact kv_iret dX12_enter_44 rfl (by rw [hS]; exact kOM.no hm hu rfl)
    · have n1 : ¬ (kOut p0 0 (a 0 2 - 1) ∨ kOut p1 0 1) := fun q => q.elim n1a (kIn_y h2)
      refine kv_iload_n dX12_enter_16 rfl ?_
      refine kv_iconst dX12_enter_17 0 ki_0 ?_
      refine kv_ldc dX12_enter_18 kX12_183 ?_
      refine kw_Si [_, _, _] mX12_within dX12_enter_20 lX12_78 wX12_within rfl rfl rfl (qX12_within hu _ _ _) (by decide) ?_
      refine kw_beq dX12_enter_23 38 (by decide) (fun h3 => ?_) (fun h3 => ?_)
      · have hS : kenter a p0 p1 p2 p3 = (-1000001, kF a 1) := if_pos (Or.inr (Or.inl (kIn_n h3)))
        refine kv_aload_n dX12_enter_38 rfl ?_
        refine kv_ldc dX12_enter_39 kX12_83 ?_
        refine kw_Vi [_] mX12_finding dX12_enter_41 lX12_84 wX12_finding kC12 hu rfl (by first | rfl | assumption) rfl rfl rfl (qX12_finding hu 1 (by decide) (by decide) _ (by decide)) (by decide) ?_
        exact kv_iret dX12_enter_44 rfl (by rw [hS]; exact kOM.no hm hu rfl)
      · have n2 : ¬ kOut p2 0 999999 := kIn_y h3
        refine kv_iload dX12_enter_26 rfl ?_
        refine kv_iconst dX12_enter_28 0 ki_0 ?_
        refine kv_ldcw dX12_enter_29 kX12_291 ?_
        refine kw_Si [_, _, _] mX12_within dX12_enter_32 lX12_78 wX12_within rfl rfl rfl (qX12_within hu _ _ _) (by decide) ?_
        refine kw_bne dX12_enter_35 45 (by decide) (fun h4 => ?_) (fun h4 => ?_)
        · have n3 : ¬ kOut p3 0 33999 := kIn_y h4
          have hS : kenter a p0 p1 p2 p3 = _ := if_neg (fun q => q.elim n1 (fun q => q.elim n2 n3))
          refine kv_aload_n dX12_enter_45 rfl ?_
          refine kw_gR dX12_enter_46 fX12_9 hu (by first | rfl | assumption) rfl rfl (by first | rfl | assumption) ?_
          refine kv_iconst dX12_enter_49 4 ki_4 ?_
          refine kw_ig dX12_enter_50 hu eg rfl (_) (show (4 : Int32) = nI 4 from rfl) (by omega) rfl ?_
          rw [hw.1]
          refine kv_istore (ls2 := [_, _, _, _, _, _, _]) dX12_enter_51 rfl rfl rfl rfl ?_
          refine kv_iload dX12_enter_53 rfl ?_
          refine kv_bipush dX12_enter_55 40 kb_40 ?_
          refine kv_icmp_ne dX12_enter_57 67 (by decide) (fun h5 => ?_) (fun h5 => ?_)
          · have hlt : kN (a 0) 4 < 40 := by
              refine Nat.lt_of_le_of_ne hw.2 (fun q => h5 ?_)
              rw [q]
              rfl
            rw [if_pos (show a 0 4 < 40 by rw [hw.1]; exact nI_lt (b := 40) hlt (by omega))] at hS
            refine kv_sipush dX12_enter_67 1128 kz_1128 ?_
            refine kv_iconst dX12_enter_70 5 ki_5 ?_
            refine kv_iload dX12_enter_71 rfl ?_
            refine kv_imul dX12_enter_73 ?_
            refine kv_iadd dX12_enter_74 ?_
            rw [show (1128 + 5 * nI (kN (a 0) 4) : Int32) = nI (1128 + 5 * kN (a 0) 4) from kn_add (show (1128 : Int32) = nI 1128 from rfl) (kn_mul (show (5 : Int32) = nI 5 from rfl) rfl)]
            refine kv_istore (ls2 := [_, _, _, _, _, _, _]) dX12_enter_75 rfl rfl rfl rfl ?_
            refine kv_aload_n dX12_enter_77 rfl ?_
            refine kw_gR dX12_enter_78 fX12_9 hu (by first | rfl | assumption) rfl rfl (by first | rfl | assumption) ?_
            refine kv_iload dX12_enter_81 rfl ?_
            refine kv_iconst dX12_enter_83 0 ki_0 ?_
            refine kv_iadd dX12_enter_84 ?_
            refine kv_iload_n dX12_enter_85 rfl ?_
            refine kw_isg dX12_enter_86 hu eg (fun _ _ => rfl) (_) (kn_add rfl (show (0 : Int32) = nI 0 from rfl)) (by omega) (fun vw1 huw1 egw1 evw1 => ?_)
            refine kv_aload_n dX12_enter_87 rfl ?_
            refine kw_gR dX12_enter_88 fX12_9 huw1 (by first | rfl | assumption) rfl rfl (by first | rfl | assumption) ?_
            refine kv_iload dX12_enter_91 rfl ?_
            refine kv_iconst dX12_enter_93 1 ki_1 ?_
            refine kv_iadd dX12_enter_94 ?_
            refine kv_iload_n dX12_enter_95 rfl ?_
            refine kw_isg dX12_enter_96 huw1 egw1 evw1 (_) (kn_add rfl (show (1 : Int32) = nI 1 from rfl)) (by omega) (fun vw2 huw2 egw2 evw2 => ?_)
            refine kv_aload_n dX12_enter_97 rfl ?_
            refine kw_gR dX12_enter_98 fX12_9 huw2 (by first | rfl | assumption) rfl rfl (by first | rfl | assumption) ?_
            refine kv_iload dX12_enter_101 rfl ?_
            refine kv_iconst dX12_enter_103 2 ki_2 ?_
            refine kv_iadd dX12_enter_104 ?_
            refine kv_iload_n dX12_enter_105 rfl ?_
            refine kw_isg dX12_enter_106 huw2 egw2 evw2 (_) (kn_add rfl (show (2 : Int32) = nI 2 from rfl)) (by omega) (fun vw3 huw3 egw3 evw3 => ?_)
            refine kv_aload_n dX12_enter_107 rfl ?_
            refine kw_gR dX12_enter_108 fX12_9 huw3 (by first | rfl | assumption) rfl rfl (by first | rfl | assumption) ?_
            refine kv_iload dX12_enter_111 rfl ?_
            refine kv_iconst dX12_enter_113 3 ki_3 ?_
            refine kv_iadd dX12_enter_114 ?_
            refine kv_iload dX12_enter_115 rfl ?_
            refine kv_sipush dX12_enter_117 1000 kz_1000 ?_
            refine kv_idiv dX12_enter_120 (by decide) ?_
            refine kw_isg dX12_enter_121 huw3 egw3 evw3 (_) (kn_add rfl (show (3 : Int32) = nI 3 from rfl)) (by omega) (fun vw4 huw4 egw4 evw4 => ?_)
            refine kv_aload_n dX12_enter_122 rfl ?_
            refine kw_gR dX12_enter_123 fX12_9 huw4 (by first | rfl | assumption) rfl rfl (by first | rfl | assumption) ?_
            refine kv_iload dX12_enter_126 rfl ?_
            refine kv_iconst dX12_enter_128 4 ki_4 ?_
            refine kv_iadd dX12_enter_129 ?_
            refine kv_iload dX12_enter_130 rfl ?_
            refine kv_sipush dX12_enter_132 1000 kz_1000 ?_
            refine kv_irem dX12_enter_135 (by decide) ?_
            refine kw_isg dX12_enter_136 huw4 egw4 evw4 (_) (kn_add rfl (show (4 : Int32) = nI 4 from rfl)) (by omega) (fun vw5 huw5 egw5 evw5 => ?_)
            refine kv_aload_n dX12_enter_137 rfl ?_
            refine kw_gR dX12_enter_138 fX12_9 huw5 (by first | rfl | assumption) rfl rfl (by first | rfl | assumption) ?_
            refine kv_iconst dX12_enter_141 4 ki_4 ?_
            refine kv_dup2 dX12_enter_142 rfl rfl ?_
            refine kw_ig dX12_enter_143 huw5 egw5 rfl (_) (show (4 : Int32) = nI 4 from rfl) (by omega) rfl ?_
            rw [kSet_n (by omega), kSet_n (by omega), kSet_n (by omega), kSet_n (by omega), kSet_n (by omega)]
            refine kv_iconst dX12_enter_144 1 ki_1 ?_
            refine kv_iadd dX12_enter_145 ?_
            refine kw_isg dX12_enter_146 huw5 egw5 evw5 (_) (show (4 : Int32) = nI 4 from rfl) (by omega) (fun vw6 huw6 egw6 evw6 => ?_)
            refine kv_iload dX12_enter_147 rfl ?_
            exact kv_iret dX12_enter_149 rfl (by rw [hS]; exact ⟨rfl, huw6, fun b hb => evw6 b (by omega), hm.now egw6 (fun b hb => evw6 b (by omega)) (evw6 413 (by omega))⟩)
          · rw [if_neg (show ¬ a 0 4 < 40 by rw [hw.1, h5]; decide)] at hS
            refine kv_aload_n dX12_enter_60 rfl ?_
            refine kv_ldc dX12_enter_61 kX12_88 ?_
            refine kw_Vi [_] mX12_finding dX12_enter_63 lX12_84 wX12_finding kC12 hu rfl (by first | rfl | assumption) rfl rfl rfl (qX12_finding hu 4 (by decide) (by decide) _ (by decide)) (by decide) ?_
            exact kv_iret dX12_enter_66 rfl (by rw [hS]; exact kOM.no hm hu rfl)
        · have hS : kenter a p0 p1 p2 p3 = (-1000001, kF a 1) := if_pos (Or.inr (Or.inr (kIn_n h4)))
          refine kv_aload_n dX12_enter_38 rfl ?_
          refine kv_ldc dX12_enter_39 kX12_83 ?_
          refine kw_Vi [_] mX12_finding dX12_enter_41 lX12_84 wX12_finding kC12 hu rfl (by first | rfl | assumption) rfl rfl rfl (qX12_finding hu 1 (by decide) (by decide) _ (by decide)) (by decide) ?_
          exact kv_iret dX12_enter_44 rfl (by rw [hS]; exact kOM.no hm hu rfl)

theorem kenter_ok {a : KA} (ho : kOk a) (p0 p1 p2 p3 : Int32) : kOk (kenter a p0 p1 p2 p3).2 := by
  unfold kenter
  have hw := ho.1.cnt (k := 4) rfl
  have hw2 := ho.1.cnt (k := 2) rfl
  split
  · exact ho.fnd 1
  · rename_i h
    split
    · rename_i h2
      have hlt : kN (a 0) 4 < 40 := by
        rw [hw.1] at h2
        exact (nI_ltI (b := 40) (by omega) (by omega)).mp h2
      obtain ⟨x, hx, rfl⟩ := ho.1.at (k := 2) rfl (fun q => h (Or.inl (Or.inl q)))
      obtain ⟨j, hj, rfl⟩ := kOut.bd (n := 33999) (by omega) (fun q => h (Or.inr (Or.inr q)))
      have N2 : kN (kenterG (a 0) (nI x) p1 p2 (nI j)) 2 = kN (a 0) 2 := kc_N (by unfold kenterG; repeat rw [kSet_n (by omega)])
      refine ho.now (ho.1.addEntry hlt (fun i hi => by unfold kenterG; repeat rw [kSet_n (by omega)]) (kUp_suc (by unfold kenterG; rw [kSet_s]; exact congrArg (· + 1) hw.1) hlt) (kN_suc (by unfold kenterG; rw [kSet_s]; exact congrArg (· + 1) hw.1) (by omega)) ⟨⟨x, ?_, ?_⟩, ?_, ?_, ?_, ?_⟩)
      · rw [N2]; exact hx
      · unfold kenterG; (repeat (first | rw [kSet_n (by omega)] | rw [kSet_s]))
      · unfold kenterG; (repeat (first | rw [kSet_n (by omega)] | rw [kSet_s])); exact kOut.bd (n := 1) (by omega) (fun q => h (Or.inl (Or.inr q)))
      · unfold kenterG; (repeat (first | rw [kSet_n (by omega)] | rw [kSet_s])); exact kOut.bd (n := 999999) (by omega) (fun q => h (Or.inr (Or.inl q)))
      · unfold kenterG; (repeat (first | rw [kSet_n (by omega)] | rw [kSet_s])); exact kUp_div (d := 1000) (by omega) (by omega) (by omega) (by omega)
      · unfold kenterG; (repeat (first | rw [kSet_n (by omega)] | rw [kSet_s])); exact kUp_rem (d := 1000) (by omega) (by omega) (by omega) (by omega)
    · exact ho.fnd 4
