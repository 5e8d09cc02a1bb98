/-! THE MODEL'S READER: its leaves -/
theorem kv_ldcWr {p : Program} {l : Launch} {e : Env} {R : Room} {s : State} {m : MethodId} {args : Array Value} {below : List Frame} {meth : Method} {c : Code} {T : State} {locs : List Loc} {cells slots : Nat}
    (X : Stand p l e R s m args below meth c T locs cells slots) (hx : p.tables.exec = Jvm.exec) {own tx : String} {k : Nat} {a : Addr} (hown : s.vm.findClass own = some m.cls)
    (h1 : (Cond.stringRef own k tx).before #[] s = true) (h2 : (Term.string own k).eval #[] s none [] s = some (.ref a)) {g : JFrame} (hg : g.method = m) (hd : decode c.code g.pc = .ok (.ldc_w k, 3)) :
    ∀ t, Steps p.tables e below (T.setTop { g with pc := g.pc + 3, stack := .ref a :: g.stack }) t → Steps p.tables e below (T.setTop g) t := by
  obtain ⟨kc, cf, i, b, hk, hcf, hcp, -, hr, he⟩ := Cond.stringRef_spec hown h1
  cases h2.symm.trans he
  obtain ⟨kw, hkw, hq⟩ := X.warmed.alike.2.2 _ _ hk
  have hr2 : kw.resolved[k]? = some (some (.string a)) := by
    rcases X.warmed.entry hk hkw k with z | ⟨z, -⟩
    · rw [z]; exact hr
    · rw [hr] at z; cases z
  intro t ht
  subst hg
  jvm_step X.here [hx, hd, ldc_w.wp_string (e := e) (s := T) (f := g) X.here.top hkw (by rw [hq]; exact hcf) hcp hr2]
  exact ht
section KLW
variable {w : KW} {l : Launch} {mm : KM} {dd nc ns pc : Nat} {ls : List (Option Value)} {rest : List Value} {u : KMem} {Q : Option Value → KMem → Prop}
theorem kv_ldcSW {idx i : Nat} {q : Nat × String × List Int32} (d : decode mm.2.1 pc = .ok (.ldc_w idx, 3)) (hc : mm.1.cls = "KnockTableModel") (hq : kv_sx[i]? = some q) (hi : q.1 = idx)
    (kk : KV w l mm dd nc ns (pc + 3) ls (.ref (10100 + i) :: rest) u Q) : KV w l mm dd nc ns pc ls rest u Q := by
  intro p e R s m args below meth c H locs cells slots mc ms arr F S M L c1 c2
  obtain ⟨hx, hb, hr, hlo, hml, hown, hnme, hts, hfr, hlc, hmc, hms, hK, hKC, -⟩ := id F
  rw [hc] at hown
  subst hi
  have hR := hKC.2.2.1 i q hq
  intro T hT X
  have h := kk p e R s m args below meth c H locs cells slots mc ms arr F S M L c1 c2
  rw [List.map_cons, kv_ads] at h
  obtain ⟨t, a1, b1⟩ := h T hT X
  exact ⟨t, kv_ldcWr X hx hown (tx := q.2.1) (a := w.2.1 (100 + i)) hR.1 hR.2 (g := F0 m pc arr (rest.map (kv_co w))) rfl (by rw [hb]; exact d) t a1, b1⟩
end KLW
def kpN (a k : Nat) : Prop := (a = 413 ∧ (k = 6 ∨ k = 7 ∨ k = 9 ∨ k = 10 ∨ k = 11)) ∨ a = 419
def kpS2 (a k : Nat) : Prop := a = 413 ∧ (k = 6 ∨ k = 7)
abbrev kpMx (u : KMem) (g : Nat → Int32) (use : Nat)  : Prop := kWd u ∧ u.2.1 414 = g ∧ kGI g ∧ u.2.1 413 8 = nI use ∧ use < 3
theorem kpMx.wd {u : KMem} {g : Nat → Int32} {use : Nat}  (h : kpMx u g use) : kWd u := h.1
theorem kpMx.eg {u : KMem} {g : Nat → Int32} {use : Nat}  (h : kpMx u g use) : u.2.1 414 = g := h.2.1
theorem kpMx.hg {u : KMem} {g : Nat → Int32} {use : Nat}  (h : kpMx u g use) : kGI g := h.2.2.1
theorem kpMx.fu {u : KMem} {g : Nat → Int32} {use : Nat}  (h : kpMx u g use) : u.2.1 413 8 = nI use := h.2.2.2.1
theorem kpMx.hus {u : KMem} {g : Nat → Int32} {use : Nat}  (h : kpMx u g use) : use < 3 := h.2.2.2.2
theorem kpMx.of {u v : KMem} {g : Nat → Int32} {use : Nat} (h : kpMx u g use) (e : kEq kpN u v) : kpMx v g use :=
  ⟨e.wd h.wd, (e.row (fun k => by unfold kpN; omega)).trans h.eg, h.hg, (e.2.2.1 _ _ (by unfold kpN; omega)).trans h.fu, h.hus⟩
def kpMs (u : KMem) (g : Nat → Int32) (op : Nat) (s : KPs) (v : KMem) : Prop :=
  kEq kpN u v ∧ v.2.1 413 10 = 0 ∧ v.2.1 413 6 = nI s.1 ∧ v.2.1 413 7 = nI (kpTe (kpB g) (kN g 5) s.1) ∧ v.2.1 413 9 = nI op ∧ v.2.1 413 11 = nI s.2.length ∧ (∀ i, i < s.2.length → v.2.1 419 i = s.2.getD i 0) ∧ s.1 ≤ kN g 5 ∧ s.2.length ≤ s.1
def kpMe (u : KMem) (f : Nat) (v : KMem) : Prop := kEq kpN u v ∧ v.2.1 413 10 = 1 ∧ v.2.1 413 6 = nI f ∧ f ≤ 60
def kpMr (u : KMem) (g : Nat → Int32) (op : Nat) : KPt → KMem → Prop
  | .ok s, v => kpMs u g op s v
  | .error f, v => kpMe u f v
theorem kpMr.e {u v : KMem} {g : Nat → Int32} {op : Nat} : ∀ {r : KPt}, kpMr u g op r v → kEq kpN u v
  | .ok _, h => h.1
  | .error _, h => h.1
theorem kpDg_i {x : Int32} : kpDg x = true ↔ ¬ x < 48 ∧ ¬ 57 < x := ⟨fun q => ⟨Int32.not_lt.mpr (of_decide_eq_true q).1, Int32.not_lt.mpr (of_decide_eq_true q).2⟩, fun q => kpDg_in q.1 q.2⟩
theorem kpLr_i {x : Int32} : kpLr x = true ↔ ¬ x < 97 ∧ ¬ 122 < x := ⟨fun q => ⟨Int32.not_lt.mpr (of_decide_eq_true q).1, Int32.not_lt.mpr (of_decide_eq_true q).2⟩, fun q => kpLr_in q.1 q.2⟩
theorem kpSp_i {x : Int32} : kpSp x = true ↔ ¬ x < 32 ∧ ¬ 32 < x := ⟨fun q => by rw [of_decide_eq_true q]; decide, fun q => decide_eq_true (Int32.le_antisymm (Int32.not_lt.mp q.2) (Int32.not_lt.mp q.1))⟩
theorem kpDgLr {x : Int32} (h : kpLr x = true) : ¬ kpDg x = true := fun q => absurd (Int32.le_trans (of_decide_eq_true h).1 (of_decide_eq_true q).2) (by decide)
set_option maxRecDepth 20000 in
set_option maxHeartbeats 4000000 in
theorem qX12_isByte {w : KW} {l : Launch} {u : KMem} {g : Nat → Int32} {use : Nat} (mx : kpMx u g use) {p : Nat} (hp : p ≤ kN g 5) {lo hi : Int32} {P : Int32 → Bool} (hP : P (kpB g p) = true ↔ ¬ kpB g p < lo ∧ ¬ hi < kpB g p) : KC w l mX12_isByte 1 0 0 [.ref 413, .int (nI p), .int lo, .int hi] u (kq (some (.int (if p < kN g 5 ∧ P (kpB g p) = true then 1 else 0))) u) := by
  have hu := mx.wd
  have eg := mx.eg
  have hg := mx.hg
  have hw5 := hg.cnt (k := 5) rfl
  refine KC.of (ls := [_, _, _, _]) rfl rfl (Nat.le_of_ble_eq_true rfl) ?_
  refine kv_iload_n dX12_isByte_0 rfl ?_
  refine kv_aload_n dX12_isByte_1 rfl ?_
  refine kw_gR dX12_isByte_2 fX12_9 hu (by first | rfl | assumption) rfl rfl (by first | rfl | assumption) ?_
  refine kv_iconst dX12_isByte_5 5 ki_5 ?_
  refine kw_ig dX12_isByte_6 hu eg rfl (_) (show (5 : Int32) = nI 5 from rfl) (by omega) rfl ?_
  rw [hw5.1]
  refine kv_icmp_ge dX12_isByte_7 32 (by decide) (fun h1 => ?_) (fun h1 => ?_)
  · rw [if_neg (fun q => absurd ((nI_leI (by omega) (by omega)).mp h1) (by omega))]
    refine kv_iconst dX12_isByte_32 0 ki_0 ?_
    exact kv_zret dX12_isByte_33 rfl kv_z0 ⟨rfl, rfl⟩
  · have hlt : p < kN g 5 := Nat.lt_of_not_le (fun q => h1 (nI_le q (by omega)))
    refine kv_aload_n dX12_isByte_10 rfl ?_
    refine kw_gR dX12_isByte_11 fX12_9 hu (by first | rfl | assumption) rfl rfl (by first | rfl | assumption) ?_
    refine kv_sipush dX12_isByte_14 1328 kz_1328 ?_
    refine kv_iload_n dX12_isByte_17 rfl ?_
    refine kv_iadd dX12_isByte_18 ?_
    refine kw_ig dX12_isByte_19 hu eg rfl (1328 + p) (kn_add (show (1328 : Int32) = nI 1328 from rfl) rfl) (by omega) rfl ?_
    refine kv_iload_n dX12_isByte_20 rfl ?_
    refine kv_iload_n dX12_isByte_21 rfl ?_
    refine kw_Si [_, _, _] mX12_within dX12_isByte_22 lX12_78 wX12_within rfl rfl rfl (qX12_within (by exact hu) _ _ _) (by decide) ?_
    refine kw_beq dX12_isByte_25 32 (by decide) (fun h2 => ?_) (fun h2 => ?_)
    · rw [if_neg (fun q => h2 (hP.mp q.2))]
      refine kv_iconst dX12_isByte_32 0 ki_0 ?_
      exact kv_zret dX12_isByte_33 rfl kv_z0 ⟨rfl, rfl⟩
    · rw [if_pos ⟨hlt, hP.mpr h2⟩]
      refine kv_iconst dX12_isByte_28 1 ki_1 ?_
      refine kv_goto dX12_isByte_29 33 (by decide) ?_
      exact kv_zret dX12_isByte_33 rfl kv_z1 ⟨rfl, rfl⟩

set_option maxRecDepth 20000 in
set_option maxHeartbeats 4000000 in
theorem qX12_goOn {w : KW} {l : Launch} {u : KMem} {g : Nat → Int32} {use : Nat} (mx : kpMx u g use) (q : Nat) (hq : q ≤ kN g 5) (v7 : u.2.1 413 7 = nI q) : KC w l mX12_goOn 2 0 0 [.ref 413] u (fun r z => r = none ∧ kEq kpS2 u z ∧ z.2.1 413 6 = nI (kpSk (kpB g) (kN g 5) q) ∧ z.2.1 413 7 = nI (kpTe (kpB g) (kN g 5) (kpSk (kpB g) (kN g 5) q))) := by
  have hu := mx.wd
  have eg := mx.eg
  have hg := mx.hg
  have hw5 := hg.cnt (k := 5) rfl
  obtain ⟨e, he⟩ : ∃ e, e = (kpSk (kpB g) (kN g 5) q) := ⟨_, rfl⟩
  obtain ⟨s1, s2, s3, s4⟩ := kpRun_s kpSp (kpB g) (kN g 5 - q) q
  rw [show kpRun kpSp (kpB g) (kN g 5 - q) q = e from he.symm] at s1 s2 s3 s4
  refine KC.of (ls := [_, _, _]) rfl rfl (Nat.le_of_ble_eq_true rfl) ?_
  refine kv_aload_n dX12_goOn_0 rfl ?_
  refine kv_aload_n dX12_goOn_1 rfl ?_
  refine kw_gI dX12_goOn_2 fX12_186 hu (by first | rfl | assumption) rfl rfl ?_
  rw [v7]
  refine kw_pI dX12_goOn_5 fX12_190 hu (by first | rfl | assumption) rfl rfl ?_
  refine KV.loc (ls2 := [some (.ref 413), none, none]) ?_ (ksS rfl (ks0 (ks0 ksN)))
  refine kn_loop (P := fun i => ∀ z : KMem, kEq kpS2 u z → z.2.1 413 6 = nI (q + i) → KV w l mX12_goOn 2 0 0 8 [some (.ref 413), none, none] [] z (fun r z => r = none ∧ kEq kpS2 u z ∧ z.2.1 413 6 = nI (kpSk (kpB g) (kN g 5) q) ∧ z.2.1 413 7 = nI (kpTe (kpB g) (kN g 5) (kpSk (kpB g) (kN g 5) q)))) (e - q) ?_ (fun i hi ih => ?_) _ (kEq.rf.si ⟨rfl, Or.inl rfl⟩) (kv_si_s _ _ _ _)
  · intro z E z6
    have hz := E.wd hu
    have mz : kpMx z g use := mx.of (E.wk (fun a k q => Or.inl (by unfold kpS2 at q; omega)))
    have egz := mz.eg
    rw [show q + (e - q) = e by omega] at z6
    refine kv_aload_n dX12_goOn_8 rfl ?_
    refine kv_aload_n dX12_goOn_9 rfl ?_
    refine kw_gI dX12_goOn_10 fX12_190 hz (by first | rfl | assumption) rfl rfl ?_
    rw [z6]
    refine kv_bipush dX12_goOn_13 32 kb_32 ?_
    refine kv_bipush dX12_goOn_15 32 kb_32 ?_
    refine kw_Vi [_, _, _] mX12_isByte dX12_goOn_17 lX12_193 wX12_isByte kC12 hz rfl (by first | rfl | assumption) rfl rfl rfl (qX12_isByte mz (p := _) (by omega) (P := kpSp) kpSp_i) (by decide) ?_
    refine kw_beq dX12_goOn_20 36 (by decide) (fun h1 => ?_) (fun h1 => ?_)
    · refine kv_aload_n dX12_goOn_36 rfl ?_
      refine kv_aload_n dX12_goOn_37 rfl ?_
      refine kw_gI dX12_goOn_38 fX12_190 hz (by first | rfl | assumption) rfl rfl ?_
      rw [z6]
      refine kw_pI dX12_goOn_41 fX12_186 hz (by first | rfl | assumption) rfl rfl ?_
      have E4 : kEq kpS2 u (kv_si z 413 7 (nI e)) := E.si ⟨rfl, Or.inr rfl⟩
      have m4 : kpMx (kv_si z 413 7 (nI e)) g use := mx.of (E4.wk (fun a k q => Or.inl (by unfold kpS2 at q; omega)))
      have hu4 := m4.wd
      have eg4 := m4.eg
      refine kv_aload_n dX12_goOn_44 rfl ?_
      refine kv_aload_n dX12_goOn_45 rfl ?_
      refine kw_gI dX12_goOn_46 fX12_190 hu4 (by first | rfl | assumption) rfl rfl ?_
      rw [kv_si_n (by omega), z6]
      refine kv_bipush dX12_goOn_49 97 kb_97 ?_
      refine kv_bipush dX12_goOn_51 122 kb_122 ?_
      refine kw_Vi [_, _, _] mX12_isByte dX12_goOn_53 lX12_193 wX12_isByte kC12 hu4 rfl (by first | rfl | assumption) rfl rfl rfl (qX12_isByte m4 (p := e) (by omega) (P := kpLr) kpLr_i) (by decide) ?_
      by_cases hl : e < kN g 5 ∧ kpLr (kpB g e) = true
      · rw [if_pos hl]
        obtain ⟨hen, hl⟩ := hl
        refine kv_istore_n (ls2 := [_, _, _]) dX12_goOn_56 rfl rfl rfl rfl ?_
        refine kv_aload_n dX12_goOn_57 rfl ?_
        refine kv_aload_n dX12_goOn_58 rfl ?_
        refine kw_gI dX12_goOn_59 fX12_190 hu4 (by first | rfl | assumption) rfl rfl ?_
        rw [kv_si_n (by omega), z6]
        refine kv_bipush dX12_goOn_62 48 kb_48 ?_
        refine kv_bipush dX12_goOn_64 57 kb_57 ?_
        refine kw_Vi [_, _, _] mX12_isByte dX12_goOn_66 lX12_193 wX12_isByte kC12 hu4 rfl (by first | rfl | assumption) rfl rfl rfl (qX12_isByte m4 (p := e) (by omega) (P := kpDg) kpDg_i) (by decide) ?_
        skip
        · rw [if_neg (fun q => kpDgLr hl q.2)]
          refine kv_istore_n (ls2 := [_, _, _]) dX12_goOn_69 rfl rfl rfl rfl ?_
          refine kv_aload_n dX12_goOn_70 rfl ?_
          refine kv_dup dX12_goOn_71 rfl ?_
          refine kw_gI dX12_goOn_72 fX12_186 hu4 (by first | rfl | assumption) rfl rfl ?_
          rw [kv_si_s]
          refine kv_aload_n dX12_goOn_75 rfl ?_
          refine kw_gI dX12_goOn_76 fX12_190 hu4 (by first | rfl | assumption) rfl rfl ?_
          rw [kv_si_n (by omega), z6]
          refine kv_aload_n dX12_goOn_79 rfl ?_
          refine kw_gR dX12_goOn_80 fX12_9 hu4 (by first | rfl | assumption) rfl rfl (by first | rfl | assumption) ?_
          refine kv_iconst dX12_goOn_83 5 ki_5 ?_
          refine kw_ig dX12_goOn_84 hu4 eg4 rfl (_) (show (5 : Int32) = nI 5 from rfl) (by omega) rfl ?_
          rw [hw5.1]
          refine kv_icmp_ge dX12_goOn_85 92 (by decide) (fun h2 => ?_) (fun h2 => ?_)
          · exact absurd hen (Nat.not_lt.mpr ((nI_leI (by omega) (by omega)).mp h2))
          · refine kv_iconst dX12_goOn_88 1 ki_1 ?_
            refine kv_goto dX12_goOn_89 93 (by decide) ?_
            refine kv_iadd dX12_goOn_93 ?_
            refine kw_pI dX12_goOn_94 fX12_186 hu4 (by first | rfl | assumption) rfl rfl ?_
            obtain ⟨te, hte⟩ : ∃ te, te = kpTe (kpB g) (kN g 5) e := ⟨_, rfl⟩
            have hlt := kpTe_lt (B := kpB g) hen
            rw [← hte] at hlt
            have ter : kpRun kpLr (kpB g) (kN g 5 - e) e = te := (kpTe_l hen (kpDgLr hl) hl).1.symm.trans hte.symm
            obtain ⟨t1, t2, t3, t4⟩ := kpRun_s kpLr (kpB g) (kN g 5 - e) e
            rw [ter] at t1 t2 t3 t4
            refine KV.loc (ls2 := [some (.ref 413), some (.int 1), some (.int 0)]) ?_ (ksS rfl (ksS rfl (ksS rfl ksN)))
            refine kn_loop (P := fun i => ∀ z : KMem, kEq kpS2 u z → z.2.1 413 6 = nI e → z.2.1 413 7 = nI (e + 1 + i) → KV w l mX12_goOn 2 0 0 97 [some (.ref 413), some (.int 1), some (.int 0)] [] z (fun r z => r = none ∧ kEq kpS2 u z ∧ z.2.1 413 6 = nI (kpSk (kpB g) (kN g 5) q) ∧ z.2.1 413 7 = nI (kpTe (kpB g) (kN g 5) (kpSk (kpB g) (kN g 5) q)))) (te - (e + 1)) ?_ (fun i hi ih => ?_) _ ((E.si ⟨rfl, Or.inr rfl⟩).si ⟨rfl, Or.inr rfl⟩) (by rw [kv_si_n (by omega), kv_si_n (by omega)]; exact z6) (by rw [kv_si_s, Nat.add_zero]; exact kn_add rfl (show (1 : Int32) = nI 1 from rfl))
            · intro zl El y6l y7l
              have hzl := El.wd hu
              have mzl : kpMx zl g use := mx.of (El.wk (fun a k q => Or.inl (by unfold kpS2 at q; omega)))
              have egzl := mzl.eg
              rw [show e + 1 + (te - (e + 1)) = te by omega] at y7l
              refine kv_iload_n dX12_goOn_97 rfl ?_
              refine kv_if_eq dX12_goOn_98 116 (by decide) (fun h3 => ?_) (fun h3 => ?_)
              · exact absurd h3 (by decide)
              · refine kv_aload_n dX12_goOn_101 rfl ?_
                refine kv_aload_n dX12_goOn_102 rfl ?_
                refine kw_gI dX12_goOn_103 fX12_186 hzl (by first | rfl | assumption) rfl rfl ?_
                rw [y7l]
                refine kv_bipush dX12_goOn_106 97 kb_97 ?_
                refine kv_bipush dX12_goOn_108 122 kb_122 ?_
                refine kw_Vi [_, _, _] mX12_isByte dX12_goOn_110 lX12_193 wX12_isByte kC12 hzl rfl (by first | rfl | assumption) rfl rfl rfl (qX12_isByte mzl (p := _) (by omega) (P := kpLr) kpLr_i) (by decide) ?_
                refine kw_bne dX12_goOn_113 135 (by decide) (fun h4 => ?_) (fun h4 => ?_)
                · have := t4 (by have := h4.1; omega)
                  rw [h4.2] at this
                  exact absurd this (by decide)
                · refine kv_iload_n dX12_goOn_116 rfl ?_
                  refine kv_if_eq dX12_goOn_117 148 (by decide) (fun h5 => ?_) (fun h5 => ?_)
                  · exact kv_vret dX12_goOn_148 rfl (by
                        first
                        | exact ⟨rfl, El, by rw [← he]; exact y6l, by rw [← he, ← hte]; exact y7l⟩
                        | exact ⟨rfl, Ed, by rw [← he]; exact y6d, by rw [← he, ← hte]; exact y7d⟩
                        | exact ⟨rfl, (E.si ⟨rfl, Or.inr rfl⟩).si ⟨rfl, Or.inr rfl⟩, by rw [kv_si_n (by omega), kv_si_n (by omega), ← he]; exact z6, by rw [kv_si_s, ← he, (kpTe_o hen hd hl).1]; exact kn_add rfl (show (1 : Int32) = nI 1 from rfl)⟩
                        | exact ⟨rfl, (E.si ⟨rfl, Or.inr rfl⟩).si ⟨rfl, Or.inr rfl⟩, by rw [kv_si_n (by omega), kv_si_n (by omega), ← he]; exact z6, by rw [kv_si_s, ← he, (kpTe_e hen).1]; exact Int32.add_zero _⟩)
                  · exact absurd h5 (by decide)
            · have ih2 := ih
              intro zl El y6l y7l
              have hzl := El.wd hu
              have mzl : kpMx zl g use := mx.of (El.wk (fun a k q => Or.inl (by unfold kpS2 at q; omega)))
              have egzl := mzl.eg
              refine kv_iload_n dX12_goOn_97 rfl ?_
              refine kv_if_eq dX12_goOn_98 116 (by decide) (fun h6 => ?_) (fun h6 => ?_)
              · exact absurd h6 (by decide)
              · refine kv_aload_n dX12_goOn_101 rfl ?_
                refine kv_aload_n dX12_goOn_102 rfl ?_
                refine kw_gI dX12_goOn_103 fX12_186 hzl (by first | rfl | assumption) rfl rfl ?_
                rw [y7l]
                refine kv_bipush dX12_goOn_106 97 kb_97 ?_
                refine kv_bipush dX12_goOn_108 122 kb_122 ?_
                refine kw_Vi [_, _, _] mX12_isByte dX12_goOn_110 lX12_193 wX12_isByte kC12 hzl rfl (by first | rfl | assumption) rfl rfl rfl (qX12_isByte mzl (p := _) (by omega) (P := kpLr) kpLr_i) (by decide) ?_
                refine kw_bne dX12_goOn_113 135 (by decide) (fun h7 => ?_) (fun h7 => ?_)
                · refine kv_aload_n dX12_goOn_135 rfl ?_
                  refine kv_dup dX12_goOn_136 rfl ?_
                  refine kw_gI dX12_goOn_137 fX12_186 hzl (by first | rfl | assumption) rfl rfl ?_
                  first
                  | rw [y7l]
                  | rw [y7d]
                  refine kv_iconst dX12_goOn_140 1 ki_1 ?_
                  refine kv_iadd dX12_goOn_141 ?_
                  refine kw_pI dX12_goOn_142 fX12_186 hzl (by first | rfl | assumption) rfl rfl ?_
                  refine kv_goto dX12_goOn_145 97 (by decide) ?_
                  refine KV.loc (ih2 _ (El.si ⟨rfl, Or.inr rfl⟩) (by rw [kv_si_n (by omega)]; exact y6l) ?_) (ksS rfl (ksS rfl (ksS rfl ksN)))
                  rw [kv_si_s, ← Nat.add_assoc]
                  exact (kn_add rfl (show (1 : Int32) = nI 1 from rfl))
                · exact absurd ⟨by omega, t3 (e + 1 + i) (by omega) (by omega)⟩ h7
      · rw [if_neg hl]
        refine kv_istore_n (ls2 := [_, _, _]) dX12_goOn_56 rfl rfl rfl rfl ?_
        refine kv_aload_n dX12_goOn_57 rfl ?_
        refine kv_aload_n dX12_goOn_58 rfl ?_
        refine kw_gI dX12_goOn_59 fX12_190 hu4 (by first | rfl | assumption) rfl rfl ?_
        rw [kv_si_n (by omega), z6]
        refine kv_bipush dX12_goOn_62 48 kb_48 ?_
        refine kv_bipush dX12_goOn_64 57 kb_57 ?_
        refine kw_Vi [_, _, _] mX12_isByte dX12_goOn_66 lX12_193 wX12_isByte kC12 hu4 rfl (by first | rfl | assumption) rfl rfl rfl (qX12_isByte m4 (p := e) (by omega) (P := kpDg) kpDg_i) (by decide) ?_
        by_cases hd : e < kN g 5 ∧ kpDg (kpB g e) = true
        · rw [if_pos hd]
          obtain ⟨hen, hd⟩ := hd
          refine kv_istore_n (ls2 := [_, _, _]) dX12_goOn_69 rfl rfl rfl rfl ?_
          refine kv_aload_n dX12_goOn_70 rfl ?_
          refine kv_dup dX12_goOn_71 rfl ?_
          refine kw_gI dX12_goOn_72 fX12_186 hu4 (by first | rfl | assumption) rfl rfl ?_
          rw [kv_si_s]
          refine kv_aload_n dX12_goOn_75 rfl ?_
          refine kw_gI dX12_goOn_76 fX12_190 hu4 (by first | rfl | assumption) rfl rfl ?_
          rw [kv_si_n (by omega), z6]
          refine kv_aload_n dX12_goOn_79 rfl ?_
          refine kw_gR dX12_goOn_80 fX12_9 hu4 (by first | rfl | assumption) rfl rfl (by first | rfl | assumption) ?_
          refine kv_iconst dX12_goOn_83 5 ki_5 ?_
          refine kw_ig dX12_goOn_84 hu4 eg4 rfl (_) (show (5 : Int32) = nI 5 from rfl) (by omega) rfl ?_
          rw [hw5.1]
          refine kv_icmp_ge dX12_goOn_85 92 (by decide) (fun h8 => ?_) (fun h8 => ?_)
          · exact absurd hen (Nat.not_lt.mpr ((nI_leI (by omega) (by omega)).mp h8))
          · refine kv_iconst dX12_goOn_88 1 ki_1 ?_
            refine kv_goto dX12_goOn_89 93 (by decide) ?_
            refine kv_iadd dX12_goOn_93 ?_
            refine kw_pI dX12_goOn_94 fX12_186 hu4 (by first | rfl | assumption) rfl rfl ?_
            obtain ⟨te, hte⟩ : ∃ te, te = kpTe (kpB g) (kN g 5) e := ⟨_, rfl⟩
            have hlt := kpTe_lt (B := kpB g) hen
            rw [← hte] at hlt
            have ter : kpRun kpDg (kpB g) (kN g 5 - e) e = te := (kpTe_d hen hd).1.symm.trans hte.symm
            obtain ⟨t1, t2, t3, t4⟩ := kpRun_s kpDg (kpB g) (kN g 5 - e) e
            rw [ter] at t1 t2 t3 t4
            refine KV.loc (ls2 := [some (.ref 413), some (.int 0), some (.int 1)]) ?_ (ksS rfl (ksS rfl (ksS rfl ksN)))
            refine kn_loop (P := fun i => ∀ z : KMem, kEq kpS2 u z → z.2.1 413 6 = nI e → z.2.1 413 7 = nI (e + 1 + i) → KV w l mX12_goOn 2 0 0 97 [some (.ref 413), some (.int 0), some (.int 1)] [] z (fun r z => r = none ∧ kEq kpS2 u z ∧ z.2.1 413 6 = nI (kpSk (kpB g) (kN g 5) q) ∧ z.2.1 413 7 = nI (kpTe (kpB g) (kN g 5) (kpSk (kpB g) (kN g 5) q)))) (te - (e + 1)) ?_ (fun i hi ih => ?_) _ ((E.si ⟨rfl, Or.inr rfl⟩).si ⟨rfl, Or.inr rfl⟩) (by rw [kv_si_n (by omega), kv_si_n (by omega)]; exact z6) (by rw [kv_si_s, Nat.add_zero]; exact kn_add rfl (show (1 : Int32) = nI 1 from rfl))
            · intro zd Ed y6d y7d
              have hzd := Ed.wd hu
              have mzd : kpMx zd g use := mx.of (Ed.wk (fun a k q => Or.inl (by unfold kpS2 at q; omega)))
              have egzd := mzd.eg
              rw [show e + 1 + (te - (e + 1)) = te by omega] at y7d
              refine kv_iload_n dX12_goOn_97 rfl ?_
              refine kv_if_eq dX12_goOn_98 116 (by decide) (fun h9 => ?_) (fun h9 => ?_)
              · refine kv_iload_n dX12_goOn_116 rfl ?_
                refine kv_if_eq dX12_goOn_117 148 (by decide) (fun h10 => ?_) (fun h10 => ?_)
                · exact absurd h10 (by decide)
                · refine kv_aload_n dX12_goOn_120 rfl ?_
                  refine kv_aload_n dX12_goOn_121 rfl ?_
                  refine kw_gI dX12_goOn_122 fX12_186 hzd (by first | rfl | assumption) rfl rfl ?_
                  rw [y7d]
                  refine kv_bipush dX12_goOn_125 48 kb_48 ?_
                  refine kv_bipush dX12_goOn_127 57 kb_57 ?_
                  refine kw_Vi [_, _, _] mX12_isByte dX12_goOn_129 lX12_193 wX12_isByte kC12 hzd rfl (by first | rfl | assumption) rfl rfl rfl (qX12_isByte mzd (p := _) (by omega) (P := kpDg) kpDg_i) (by decide) ?_
                  refine kw_beq dX12_goOn_132 148 (by decide) (fun h11 => ?_) (fun h11 => ?_)
                  · exact kv_vret dX12_goOn_148 rfl (by
                        first
                        | exact ⟨rfl, El, by rw [← he]; exact y6l, by rw [← he, ← hte]; exact y7l⟩
                        | exact ⟨rfl, Ed, by rw [← he]; exact y6d, by rw [← he, ← hte]; exact y7d⟩
                        | exact ⟨rfl, (E.si ⟨rfl, Or.inr rfl⟩).si ⟨rfl, Or.inr rfl⟩, by rw [kv_si_n (by omega), kv_si_n (by omega), ← he]; exact z6, by rw [kv_si_s, ← he, (kpTe_o hen hd hl).1]; exact kn_add rfl (show (1 : Int32) = nI 1 from rfl)⟩
                        | exact ⟨rfl, (E.si ⟨rfl, Or.inr rfl⟩).si ⟨rfl, Or.inr rfl⟩, by rw [kv_si_n (by omega), kv_si_n (by omega), ← he]; exact z6, by rw [kv_si_s, ← he, (kpTe_e hen).1]; exact Int32.add_zero _⟩)
                  · have := t4 (by have := h11.1; omega)
                    rw [h11.2] at this
                    exact absurd this (by decide)
              · exact absurd h9 (by decide)
            · have ih2 := ih
              intro zd Ed y6d y7d
              have hzd := Ed.wd hu
              have mzd : kpMx zd g use := mx.of (Ed.wk (fun a k q => Or.inl (by unfold kpS2 at q; omega)))
              have egzd := mzd.eg
              refine kv_iload_n dX12_goOn_97 rfl ?_
              refine kv_if_eq dX12_goOn_98 116 (by decide) (fun h12 => ?_) (fun h12 => ?_)
              · refine kv_iload_n dX12_goOn_116 rfl ?_
                refine kv_if_eq dX12_goOn_117 148 (by decide) (fun h13 => ?_) (fun h13 => ?_)
                · exact absurd h13 (by decide)
                · refine kv_aload_n dX12_goOn_120 rfl ?_
                  refine kv_aload_n dX12_goOn_121 rfl ?_
                  refine kw_gI dX12_goOn_122 fX12_186 hzd (by first | rfl | assumption) rfl rfl ?_
                  rw [y7d]
                  refine kv_bipush dX12_goOn_125 48 kb_48 ?_
                  refine kv_bipush dX12_goOn_127 57 kb_57 ?_
                  refine kw_Vi [_, _, _] mX12_isByte dX12_goOn_129 lX12_193 wX12_isByte kC12 hzd rfl (by first | rfl | assumption) rfl rfl rfl (qX12_isByte mzd (p := _) (by omega) (P := kpDg) kpDg_i) (by decide) ?_
                  refine kw_beq dX12_goOn_132 148 (by decide) (fun h14 => ?_) (fun h14 => ?_)
                  · exact absurd ⟨by omega, t3 (e + 1 + i) (by omega) (by omega)⟩ h14
                  · refine kv_aload_n dX12_goOn_135 rfl ?_
                    refine kv_dup dX12_goOn_136 rfl ?_
                    refine kw_gI dX12_goOn_137 fX12_186 hzd (by first | rfl | assumption) rfl rfl ?_
                    first
                    | rw [y7l]
                    | rw [y7d]
                    refine kv_iconst dX12_goOn_140 1 ki_1 ?_
                    refine kv_iadd dX12_goOn_141 ?_
                    refine kw_pI dX12_goOn_142 fX12_186 hzd (by first | rfl | assumption) rfl rfl ?_
                    refine kv_goto dX12_goOn_145 97 (by decide) ?_
                    refine KV.loc (ih2 _ (Ed.si ⟨rfl, Or.inr rfl⟩) (by rw [kv_si_n (by omega)]; exact y6d) ?_) (ksS rfl (ksS rfl (ksS rfl ksN)))
                    rw [kv_si_s, ← Nat.add_assoc]
                    exact (kn_add rfl (show (1 : Int32) = nI 1 from rfl))
              · exact absurd h12 (by decide)
        · rw [if_neg hd]
          refine kv_istore_n (ls2 := [_, _, _]) dX12_goOn_69 rfl rfl rfl rfl ?_
          refine kv_aload_n dX12_goOn_70 rfl ?_
          refine kv_dup dX12_goOn_71 rfl ?_
          refine kw_gI dX12_goOn_72 fX12_186 hu4 (by first | rfl | assumption) rfl rfl ?_
          rw [kv_si_s]
          refine kv_aload_n dX12_goOn_75 rfl ?_
          refine kw_gI dX12_goOn_76 fX12_190 hu4 (by first | rfl | assumption) rfl rfl ?_
          rw [kv_si_n (by omega), z6]
          refine kv_aload_n dX12_goOn_79 rfl ?_
          refine kw_gR dX12_goOn_80 fX12_9 hu4 (by first | rfl | assumption) rfl rfl (by first | rfl | assumption) ?_
          refine kv_iconst dX12_goOn_83 5 ki_5 ?_
          refine kw_ig dX12_goOn_84 hu4 eg4 rfl (_) (show (5 : Int32) = nI 5 from rfl) (by omega) rfl ?_
          rw [hw5.1]
          refine kv_icmp_ge dX12_goOn_85 92 (by decide) (fun h15 => ?_) (fun h15 => ?_)
          · have hen : ¬ e < kN g 5 := Nat.not_lt.mpr ((nI_leI (by omega) (by omega)).mp h15)
            refine kv_iconst dX12_goOn_92 0 ki_0 ?_
            refine kv_iadd dX12_goOn_93 ?_
            refine kw_pI dX12_goOn_94 fX12_186 hu4 (by first | rfl | assumption) rfl rfl ?_
            refine kv_iload_n dX12_goOn_97 rfl ?_
            refine kv_if_eq dX12_goOn_98 116 (by decide) (fun h16 => ?_) (fun h16 => ?_)
            · refine kv_iload_n dX12_goOn_116 rfl ?_
              refine kv_if_eq dX12_goOn_117 148 (by decide) (fun h17 => ?_) (fun h17 => ?_)
              · exact kv_vret dX12_goOn_148 rfl (by
                    first
                    | exact ⟨rfl, El, by rw [← he]; exact y6l, by rw [← he, ← hte]; exact y7l⟩
                    | exact ⟨rfl, Ed, by rw [← he]; exact y6d, by rw [← he, ← hte]; exact y7d⟩
                    | exact ⟨rfl, (E.si ⟨rfl, Or.inr rfl⟩).si ⟨rfl, Or.inr rfl⟩, by rw [kv_si_n (by omega), kv_si_n (by omega), ← he]; exact z6, by rw [kv_si_s, ← he, (kpTe_o hen hd hl).1]; exact kn_add rfl (show (1 : Int32) = nI 1 from rfl)⟩
                    | exact ⟨rfl, (E.si ⟨rfl, Or.inr rfl⟩).si ⟨rfl, Or.inr rfl⟩, by rw [kv_si_n (by omega), kv_si_n (by omega), ← he]; exact z6, by rw [kv_si_s, ← he, (kpTe_e hen).1]; exact Int32.add_zero _⟩)
              · exact absurd h17 (by decide)
            · exact absurd h16 (by decide)
          · have hen : e < kN g 5 := Nat.lt_of_not_le (fun q => h15 (nI_le q (by omega)))
            have hd : ¬ kpDg (kpB g e) = true := fun q => hd ⟨hen, q⟩
            have hl : ¬ kpLr (kpB g e) = true := fun q => hl ⟨hen, q⟩
            refine kv_iconst dX12_goOn_88 1 ki_1 ?_
            refine kv_goto dX12_goOn_89 93 (by decide) ?_
            refine kv_iadd dX12_goOn_93 ?_
            refine kw_pI dX12_goOn_94 fX12_186 hu4 (by first | rfl | assumption) rfl rfl ?_
            refine kv_iload_n dX12_goOn_97 rfl ?_
            refine kv_if_eq dX12_goOn_98 116 (by decide) (fun h18 => ?_) (fun h18 => ?_)
            · refine kv_iload_n dX12_goOn_116 rfl ?_
              refine kv_if_eq dX12_goOn_117 148 (by decide) (fun h19 => ?_) (fun h19 => ?_)
              · exact kv_vret dX12_goOn_148 rfl (by
                    first
                    | exact ⟨rfl, El, by rw [← he]; exact y6l, by rw [← he, ← hte]; exact y7l⟩
                    | exact ⟨rfl, Ed, by rw [← he]; exact y6d, by rw [← he, ← hte]; exact y7d⟩
                    | exact ⟨rfl, (E.si ⟨rfl, Or.inr rfl⟩).si ⟨rfl, Or.inr rfl⟩, by rw [kv_si_n (by omega), kv_si_n (by omega), ← he]; exact z6, by rw [kv_si_s, ← he, (kpTe_o hen hd hl).1]; exact kn_add rfl (show (1 : Int32) = nI 1 from rfl)⟩
                    | exact ⟨rfl, (E.si ⟨rfl, Or.inr rfl⟩).si ⟨rfl, Or.inr rfl⟩, by rw [kv_si_n (by omega), kv_si_n (by omega), ← he]; exact z6, by rw [kv_si_s, ← he, (kpTe_e hen).1]; exact Int32.add_zero _⟩)
              · exact absurd h19 (by decide)
            · exact absurd h18 (by decide)
    · have := s4 (by omega)
      rw [h1.2] at this
      exact absurd this (by decide)
  · have ih1 := ih
    intro z E z6
    have hz := E.wd hu
    have mz : kpMx z g use := mx.of (E.wk (fun a k q => Or.inl (by unfold kpS2 at q; omega)))
    have egz := mz.eg
    refine kv_aload_n dX12_goOn_8 rfl ?_
    refine kv_aload_n dX12_goOn_9 rfl ?_
    refine kw_gI dX12_goOn_10 fX12_190 hz (by first | rfl | assumption) rfl rfl ?_
    rw [z6]
    refine kv_bipush dX12_goOn_13 32 kb_32 ?_
    refine kv_bipush dX12_goOn_15 32 kb_32 ?_
    refine kw_Vi [_, _, _] mX12_isByte dX12_goOn_17 lX12_193 wX12_isByte kC12 hz rfl (by first | rfl | assumption) rfl rfl rfl (qX12_isByte mz (p := _) (by omega) (P := kpSp) kpSp_i) (by decide) ?_
    refine kw_beq dX12_goOn_20 36 (by decide) (fun h20 => ?_) (fun h20 => ?_)
    · exact absurd ⟨by omega, s3 (q + i) (by omega) (by omega)⟩ h20
    · refine kv_aload_n dX12_goOn_23 rfl ?_
      refine kv_dup dX12_goOn_24 rfl ?_
      refine kw_gI dX12_goOn_25 fX12_190 hz (by first | rfl | assumption) rfl rfl ?_
      rw [z6]
      refine kv_iconst dX12_goOn_28 1 ki_1 ?_
      refine kv_iadd dX12_goOn_29 ?_
      refine kw_pI dX12_goOn_30 fX12_190 hz (by first | rfl | assumption) rfl rfl ?_
      refine kv_goto dX12_goOn_33 8 (by decide) ?_
      refine KV.loc (ih1 _ (E.si ⟨rfl, Or.inl rfl⟩) ?_) (ksS rfl (ks0 (ks0 ksN)))
      rw [kv_si_s, ← Nat.add_assoc]
      exact (kn_add rfl (show (1 : Int32) = nI 1 from rfl))

