/-! THE MODEL'S READER: words -/
def kpAt (g : Nat → Int32) (s : KPs) (i : Nat) : Prop := kpTe (kpB g) (kN g 5) s.1 - s.1 = kv_sl.getD i 0 ∧ ∀ k, k < kv_sl.getD i 0 → kpB g (s.1 + k) = (kv_sb.getD i []).getD k 0
theorem kpAt_1 {g : Nat → Int32} {s : KPs} {i : Nat} {c : Int32} (h1 : kv_sl.getD i 0 = 1) (h2 : (kv_sb.getD i []).getD 0 0 = c) (hc : kpSn c) : kpAt g s i ↔ kpWo (kpB g) (kN g 5) s.1 = c := by
  rw [kpWo_1 hc]
  unfold kpAt
  rw [h1]
  exact ⟨fun q => ⟨q.1, (q.2 0 (by omega)).trans h2⟩, fun q => ⟨q.1, fun k hk => by rw [show k = 0 by omega]; exact q.2.trans h2.symm⟩⟩
theorem kpAt_3 {g : Nat → Int32} {s : KPs} {i : Nat} {a b c : Int32} (h1 : kv_sl.getD i 0 = 3) (ha : (kv_sb.getD i []).getD 0 0 = a) (hb : (kv_sb.getD i []).getD 1 0 = b) (hc : (kv_sb.getD i []).getD 2 0 = c) : kpAt g s i ↔ kpW3 (kpB g) (kN g 5) s.1 a b c := by
  unfold kpAt kpW3
  rw [h1]
  refine ⟨fun q => ⟨q.1, (q.2 0 (by omega)).trans ha, (q.2 1 (by omega)).trans hb, (q.2 2 (by omega)).trans hc⟩, fun q => ⟨q.1, fun k hk => ?_⟩⟩
  rcases (show k = 0 ∨ k = 1 ∨ k = 2 by omega) with rfl | rfl | rfl
  · exact q.2.1.trans ha.symm
  · exact q.2.2.1.trans hb.symm
  · exact q.2.2.2.trans hc.symm
theorem kpMs.next {u v z : KMem} {g : Nat → Int32} {op : Nat} {s : KPs} {cs : List Int32} (hlt : s.1 < kN g 5) (E : kEq kpN u v) (v10 : v.2.1 413 10 = 0) (v9 : v.2.1 413 9 = nI op) (v11 : v.2.1 413 11 = nI cs.length) (vs : ∀ i, i < cs.length → v.2.1 419 i = cs.getD i 0) (hl : cs.length ≤ s.1 + 1) (e : kEq kpS2 v z) (z6 : z.2.1 413 6 = nI (kpNx (kpB g) (kN g 5) s.1)) (z7 : z.2.1 413 7 = nI (kpTe (kpB g) (kN g 5) (kpNx (kpB g) (kN g 5) s.1))) : kpMs u g op ((kpNx (kpB g) (kN g 5) s.1), cs) z := by
  have := kpNx_lt (B := kpB g) hlt
  exact ⟨E.tr (e.wk (fun a k q => Or.inl (by unfold kpS2 at q; omega))), (e.2.2.1 _ _ (by unfold kpS2; omega)).trans v10, z6, z7, (e.2.2.1 _ _ (by unfold kpS2; omega)).trans v9, (e.2.2.1 _ _ (by unfold kpS2; omega)).trans v11, fun i hi => (e.2.2.1 _ _ (by unfold kpS2; omega)).trans (vs i hi), this.2, by show cs.length ≤ (kpNx (kpB g) (kN g 5) s.1); omega⟩
set_option maxRecDepth 20000 in
set_option maxHeartbeats 4000000 in
theorem qX12_isAt {w : KW} {l : Launch} {u : KMem} {g : Nat → Int32} {use : Nat} (mx : kpMx u g use) {op : Nat} {v : KMem} {s : KPs} (hX : kpMs u g op s v) {i : Nat} (hi : i < 18) : KC w l mX12_isAt 4 0 0 [.ref 413, .ref (10100 + i)] v (kq (some (.int (@ite _ (kpAt g s i) (Classical.propDecidable _) 1 0))) v) := by
  have hu := mx.wd
  have eg := mx.eg
  have hg := mx.hg
  have hw5 := hg.cnt (k := 5) rfl
  obtain ⟨E, g10, g6, g7, g9, gc, gs, hp, hsl⟩ := id hX
  have mv := mx.of E
  have hv := mv.wd
  have egv := mv.eg
  have hte := kpTe_le (B := kpB g) hp
  have h100 := (kv_sl_a i hi).2
  refine KC.of (ls := [_, _, _, _]) rfl rfl (Nat.le_of_ble_eq_true rfl) ?_
  refine kv_aload_n dX12_isAt_0 rfl ?_
  refine kw_gI dX12_isAt_1 fX12_196 hv (by first | rfl | assumption) rfl rfl ?_
  rw [g10]
  refine kv_if_ne dX12_isAt_4 27 (by decide) (fun h1 => ?_) (fun h1 => ?_)
  · exact absurd rfl h1
  · refine kv_aload_n dX12_isAt_7 rfl ?_
    refine kw_gI dX12_isAt_8 fX12_186 hv (by first | rfl | assumption) rfl rfl ?_
    rw [g7]
    refine kv_aload_n dX12_isAt_11 rfl ?_
    refine kw_gI dX12_isAt_12 fX12_190 hv (by first | rfl | assumption) rfl rfl ?_
    rw [g6]
    refine kv_isub dX12_isAt_15 ?_
    rw [show (nI (kpTe (kpB g) (kN g 5) s.1) - nI s.1 : Int32) = nI ((kpTe (kpB g) (kN g 5) s.1) - s.1) from kn_sub rfl rfl hte.1]
    refine kv_aload_n dX12_isAt_16 rfl ?_
    refine kw_Vs (i := i) [] mJ0_length_8abf5 dX12_isAt_17 lX12_200 wJ0_length_8abf5 rfl hi rfl rfl rfl (qJ0_length_8abf5 hi) (by decide) ?_
    refine kv_icmp_ne dX12_isAt_20 27 (by decide) (fun h2 => ?_) (fun h2 => ?_)
    · have hM : ¬ kpAt g s i := fun q => h2 (by rw [q.1])
      have hz : ∀ x, KV w l mX12_isAt 4 0 0 31 [some (.ref 413), some (.ref (10100 + i)), some (.int 0), some (.int x)] [] v (kq (some (.int (@ite _ (kpAt g s i) (Classical.propDecidable _) 1 0))) v) := fun x => by
        refine kv_iload_n dX12_isAt_31 rfl ?_
        refine kv_if_eq dX12_isAt_32 78 (by decide) (fun _ => ?_) (fun h => absurd rfl h)
        refine kv_iload_n dX12_isAt_78 rfl ?_
        exact kv_zret dX12_isAt_79 rfl kv_z0 ⟨by rw [if_neg hM], rfl⟩
      refine kv_iconst dX12_isAt_27 0 ki_0 ?_
      refine kv_istore_n (ls2 := [_, _, _, _]) dX12_isAt_28 rfl rfl rfl rfl ?_
      refine kv_iconst dX12_isAt_29 0 ki_0 ?_
      refine kv_istore_n (ls2 := [_, _, _, _]) dX12_isAt_30 rfl rfl rfl rfl ?_
      exact KV.loc (hz _) (ksS rfl (ksS rfl (ksS rfl (ksS rfl ksN))))
    · have hT : (kpTe (kpB g) (kN g 5) s.1) - s.1 = kv_sl.getD i 0 := (nI_eq (by omega) (by omega)).mp h2
      refine kv_iconst dX12_isAt_23 1 ki_1 ?_
      refine kv_goto dX12_isAt_24 28 (by decide) ?_
      refine kv_istore_n (ls2 := [_, _, _, _]) dX12_isAt_28 rfl rfl rfl rfl ?_
      refine kv_iconst dX12_isAt_29 0 ki_0 ?_
      refine kv_istore_n (ls2 := [_, _, _, _]) dX12_isAt_30 rfl rfl rfl rfl ?_
      refine KV.loc (ls2 := [some (.ref 413), some (.ref (10100 + i)), some (.int 1), some (.int (nI (0)))]) ?_ (ksS rfl (ksS rfl (ksS rfl (ksS rfl ksN))))
      refine kn_loop (P := fun k => (∀ j, j < k → kpB g (s.1 + j) = (kv_sb.getD i []).getD j 0) → KV w l mX12_isAt 4 0 0 31 [some (.ref 413), some (.ref (10100 + i)), some (.int 1), some (.int (nI k))] [] v (kq (some (.int (@ite _ (kpAt g s i) (Classical.propDecidable _) 1 0))) v)) (kv_sl.getD i 0) ?_ (fun k hk ih => ?_) (fun j hj => absurd hj (Nat.not_lt_zero j))
      · intro hJ
        have hM : kpAt g s i := ⟨hT, hJ⟩
        refine kv_iload_n dX12_isAt_31 rfl ?_
        refine kv_if_eq dX12_isAt_32 78 (by decide) (fun h3 => ?_) (fun h3 => ?_)
        · exact absurd h3 (by decide)
        · refine kv_iload_n dX12_isAt_35 rfl ?_
          refine kv_aload_n dX12_isAt_36 rfl ?_
          refine kw_Vs (i := i) [] mJ0_length_8abf5 dX12_isAt_37 lX12_200 wJ0_length_8abf5 rfl hi rfl rfl rfl (qJ0_length_8abf5 hi) (by decide) ?_
          refine kv_icmp_ge dX12_isAt_40 78 (by decide) (fun h4 => ?_) (fun h4 => ?_)
          · refine kv_iload_n dX12_isAt_78 rfl ?_
            exact kv_zret dX12_isAt_79 rfl kv_z1 ⟨by rw [if_pos hM], rfl⟩
          · exact absurd (Int32.le_refl _) h4
      · have ihk := ih
        intro hJ
        refine kv_iload_n dX12_isAt_31 rfl ?_
        refine kv_if_eq dX12_isAt_32 78 (by decide) (fun h5 => ?_) (fun h5 => ?_)
        · exact absurd h5 (by decide)
        · refine kv_iload_n dX12_isAt_35 rfl ?_
          refine kv_aload_n dX12_isAt_36 rfl ?_
          refine kw_Vs (i := i) [] mJ0_length_8abf5 dX12_isAt_37 lX12_200 wJ0_length_8abf5 rfl hi rfl rfl rfl (qJ0_length_8abf5 hi) (by decide) ?_
          refine kv_icmp_ge dX12_isAt_40 78 (by decide) (fun h6 => ?_) (fun h6 => ?_)
          · exact absurd h6 (kn_ge hk (by omega))
          · refine kv_aload_n dX12_isAt_43 rfl ?_
            refine kw_gR dX12_isAt_44 fX12_9 hv (by first | rfl | assumption) rfl rfl (by first | rfl | assumption) ?_
            refine kv_sipush dX12_isAt_47 1328 kz_1328 ?_
            refine kv_aload_n dX12_isAt_50 rfl ?_
            refine kw_gI dX12_isAt_51 fX12_190 hv (by first | rfl | assumption) rfl rfl ?_
            rw [g6]
            refine kv_iadd dX12_isAt_54 ?_
            refine kv_iload_n dX12_isAt_55 rfl ?_
            refine kv_iadd dX12_isAt_56 ?_
            refine kw_ig dX12_isAt_57 hv egv rfl (1328 + (s.1 + k)) (by rw [show 1328 + (s.1 + k) = 1328 + s.1 + k by omega]; exact kn_add (kn_add (show (1328 : Int32) = nI 1328 from rfl) rfl) rfl) (by omega) rfl ?_
            refine kv_aload_n dX12_isAt_58 rfl ?_
            refine kv_iload_n dX12_isAt_59 rfl ?_
            refine kw_Vs (i := i) [_] mJ0_charAt_5068e dX12_isAt_60 lX12_203 wJ0_charAt_5068e rfl hi rfl rfl rfl (qJ0_charAt_5068e hi hk) (by decide) ?_
            refine kv_icmp_ne dX12_isAt_63 70 (by decide) (fun h7 => ?_) (fun h7 => ?_)
            · have hM : ¬ kpAt g s i := fun q => h7 (q.2 k hk)
              have hz : ∀ x, KV w l mX12_isAt 4 0 0 31 [some (.ref 413), some (.ref (10100 + i)), some (.int 0), some (.int x)] [] v (kq (some (.int (@ite _ (kpAt g s i) (Classical.propDecidable _) 1 0))) v) := fun x => by
                refine kv_iload_n dX12_isAt_31 rfl ?_
                refine kv_if_eq dX12_isAt_32 78 (by decide) (fun _ => ?_) (fun h => absurd rfl h)
                refine kv_iload_n dX12_isAt_78 rfl ?_
                exact kv_zret dX12_isAt_79 rfl kv_z0 ⟨by rw [if_neg hM], rfl⟩
              refine kv_iconst dX12_isAt_70 0 ki_0 ?_
              refine kv_istore_n (ls2 := [_, _, _, _]) dX12_isAt_71 rfl rfl rfl rfl ?_
              refine kv_iinc (ls2 := [_, _, _, _]) dX12_isAt_72 (nI (k + 1)) rfl (kv_inc1 k) rfl rfl rfl rfl ?_
              refine kv_goto dX12_isAt_75 31 (by decide) ?_
              first
              | exact KV.loc (ihk hJ2) (ksS rfl (ksS rfl (ksS rfl (ksS rfl ksN))))
              | exact KV.loc (hz _) (ksS rfl (ksS rfl (ksS rfl (ksS rfl ksN))))
            · have hJ2 : ∀ j, j < k + 1 → kpB g (s.1 + j) = (kv_sb.getD i []).getD j 0 := fun j hj => by
                by_cases q : j = k
                · rw [q]; exact h7
                · exact hJ j (by omega)
              refine kv_iconst dX12_isAt_66 1 ki_1 ?_
              refine kv_goto dX12_isAt_67 71 (by decide) ?_
              refine kv_istore_n (ls2 := [_, _, _, _]) dX12_isAt_71 rfl rfl rfl rfl ?_
              refine kv_iinc (ls2 := [_, _, _, _]) dX12_isAt_72 (nI (k + 1)) rfl (kv_inc1 k) rfl rfl rfl rfl ?_
              refine kv_goto dX12_isAt_75 31 (by decide) ?_
              first
              | exact KV.loc (ihk hJ2) (ksS rfl (ksS rfl (ksS rfl (ksS rfl ksN))))
              | exact KV.loc (hz _) (ksS rfl (ksS rfl (ksS rfl (ksS rfl ksN))))

set_option maxRecDepth 20000 in
set_option maxHeartbeats 4000000 in
theorem qX12_isAt_e {w : KW} {l : Launch} {u : KMem} {g : Nat → Int32} {use : Nat} (mx : kpMx u g use) {f : Nat} {v : KMem} (hX : kpMe u f v) {i : Nat} (hi : i < 18) : KC w l mX12_isAt 4 0 0 [.ref 413, .ref (10100 + i)] v (kq (some (.int 0)) v) := by
  have hu := mx.wd
  have eg := mx.eg
  have hg := mx.hg
  have hw5 := hg.cnt (k := 5) rfl
  obtain ⟨E, g10, g6, hf⟩ := id hX
  have mv := mx.of E
  have hv := mv.wd
  have egv := mv.eg
  refine KC.of (ls := [_, _, _, _]) rfl rfl (Nat.le_of_ble_eq_true rfl) ?_
  have hz : ∀ x, KV w l mX12_isAt 4 0 0 31 [some (.ref 413), some (.ref (10100 + i)), some (.int 0), some (.int x)] [] v (kq (some (.int 0)) v) := fun x => by
    refine kv_iload_n dX12_isAt_31 rfl ?_
    refine kv_if_eq dX12_isAt_32 78 (by decide) (fun _ => ?_) (fun h => absurd rfl h)
    refine kv_iload_n dX12_isAt_78 rfl ?_
    exact kv_zret dX12_isAt_79 rfl kv_z0 ⟨rfl, rfl⟩
  refine kv_aload_n dX12_isAt_0 rfl ?_
  refine kw_gI dX12_isAt_1 fX12_196 hv (by first | rfl | assumption) rfl rfl ?_
  rw [g10]
  refine kv_if_ne dX12_isAt_4 27 (by decide) (fun h1 => ?_) (fun h1 => ?_)
  · refine kv_iconst dX12_isAt_27 0 ki_0 ?_
    refine kv_istore_n (ls2 := [_, _, _, _]) dX12_isAt_28 rfl rfl rfl rfl ?_
    refine kv_iconst dX12_isAt_29 0 ki_0 ?_
    refine kv_istore_n (ls2 := [_, _, _, _]) dX12_isAt_30 rfl rfl rfl rfl ?_
    exact KV.loc (hz _) (ksS rfl (ksS rfl (ksS rfl (ksS rfl ksN))))
  · exact absurd h1 (by decide)

theorem qX12_isAt_y {w : KW} {l : Launch} {u : KMem} {g : Nat → Int32} {use : Nat} (mx : kpMx u g use) {op : Nat} {v : KMem} {s : KPs} (hX : kpMs u g op s v) {i : Nat} (hi : i < 18) (hM : kpAt g s i) : KC w l mX12_isAt 4 0 0 [.ref 413, .ref (10100 + i)] v (kq (some (.int 1)) v) := by
  have := qX12_isAt (w := w) (l := l) mx hX hi
  rw [if_pos hM] at this
  exact this
theorem qX12_isAt_n {w : KW} {l : Launch} {u : KMem} {g : Nat → Int32} {use : Nat} (mx : kpMx u g use) {op : Nat} {v : KMem} {s : KPs} (hX : kpMs u g op s v) {i : Nat} (hi : i < 18) (hM : ¬ kpAt g s i) : KC w l mX12_isAt 4 0 0 [.ref 413, .ref (10100 + i)] v (kq (some (.int 0)) v) := by
  have := qX12_isAt (w := w) (l := l) mx hX hi
  rw [if_neg hM] at this
  exact this
set_option maxRecDepth 20000 in
set_option maxHeartbeats 4000000 in
theorem qX12_takes_y {w : KW} {l : Launch} {u : KMem} {g : Nat → Int32} {use : Nat} (mx : kpMx u g use) {op : Nat} {v : KMem} {s : KPs} (hX : kpMs u g op s v) {i : Nat} (hi : i < 18) (hM : kpAt g s i) (hlt : s.1 < kN g 5) : KC w l mX12_takes 5 0 0 [.ref 413, .ref (10100 + i)] v (fun r z => r = some (.int 1) ∧ kpMs u g op ((kpNx (kpB g) (kN g 5) s.1), s.2) z) := by
  have hu := mx.wd
  have eg := mx.eg
  have hg := mx.hg
  have hw5 := hg.cnt (k := 5) rfl
  obtain ⟨E, g10, g6, g7, g9, gc, gs, hp, hsl⟩ := id hX
  have mv := mx.of E
  have hv := mv.wd
  have egv := mv.eg
  have hte := kpTe_le (B := kpB g) hp
  refine KC.of (ls := [_, _, _]) rfl rfl (Nat.le_of_ble_eq_true rfl) ?_
  refine kv_aload_n dX12_takes_0 rfl ?_
  refine kv_aload_n dX12_takes_1 rfl ?_
  refine kw_Vi [_] mX12_isAt dX12_takes_2 lX12_207 wX12_isAt kC12 hv rfl (by first | rfl | assumption) rfl rfl rfl (qX12_isAt_y mx hX hi hM) (by decide) ?_
  refine kv_istore_n (ls2 := [_, _, _]) dX12_takes_5 rfl rfl rfl rfl ?_
  refine kv_iload_n dX12_takes_6 rfl ?_
  refine kv_if_eq dX12_takes_7 14 (by decide) (fun h1 => ?_) (fun h1 => ?_)
  · exact absurd h1 (by decide)
  · refine kv_aload_n dX12_takes_10 rfl ?_
    refine kw_VQ [] mX12_goOn dX12_takes_11 lX12_211 wX12_goOn kC12 hv rfl (by first | rfl | assumption) rfl rfl rfl (qX12_goOn mv (kpTe (kpB g) (kN g 5) s.1) hte.2 g7) (by decide) (fun _ v1 q1 => ?_)
    obtain ⟨rfl, es, z6, z7⟩ := q1
    have hvs := es.wd (mv).wd
    refine kv_iload_n dX12_takes_14 rfl ?_
    exact kv_zret dX12_takes_15 rfl kv_z1 ⟨rfl, kpMs.next hlt E g10 g9 gc gs (by omega) es z6 z7⟩

set_option maxRecDepth 20000 in
set_option maxHeartbeats 4000000 in
theorem qX12_takes_n {w : KW} {l : Launch} {u : KMem} {g : Nat → Int32} {use : Nat} (mx : kpMx u g use) {op : Nat} {v : KMem} {s : KPs} (hX : kpMs u g op s v) {i : Nat} (hi : i < 18) (hM : ¬ kpAt g s i) : KC w l mX12_takes 5 0 0 [.ref 413, .ref (10100 + i)] v (kq (some (.int 0)) v) := by
  have hu := mx.wd
  have eg := mx.eg
  have hg := mx.hg
  have hw5 := hg.cnt (k := 5) rfl
  obtain ⟨E, g10, g6, g7, g9, gc, gs, hp, hsl⟩ := id hX
  have mv := mx.of E
  have hv := mv.wd
  have egv := mv.eg
  have hte := kpTe_le (B := kpB g) hp
  refine KC.of (ls := [_, _, _]) rfl rfl (Nat.le_of_ble_eq_true rfl) ?_
  refine kv_aload_n dX12_takes_0 rfl ?_
  refine kv_aload_n dX12_takes_1 rfl ?_
  refine kw_Vi [_] mX12_isAt dX12_takes_2 lX12_207 wX12_isAt kC12 hv rfl (by first | rfl | assumption) rfl rfl rfl (qX12_isAt_n mx hX hi hM) (by decide) ?_
  refine kv_istore_n (ls2 := [_, _, _]) dX12_takes_5 rfl rfl rfl rfl ?_
  refine kv_iload_n dX12_takes_6 rfl ?_
  refine kv_if_eq dX12_takes_7 14 (by decide) (fun h1 => ?_) (fun h1 => ?_)
  · refine kv_iload_n dX12_takes_14 rfl ?_
    exact kv_zret dX12_takes_15 rfl kv_z0 ⟨rfl, rfl⟩
  · exact absurd h1 (by decide)

set_option maxRecDepth 20000 in
set_option maxHeartbeats 4000000 in
theorem qX12_takes_e {w : KW} {l : Launch} {u : KMem} {g : Nat → Int32} {use : Nat} (mx : kpMx u g use) {f : Nat} {v : KMem} (hX : kpMe u f v) {i : Nat} (hi : i < 18) : KC w l mX12_takes 5 0 0 [.ref 413, .ref (10100 + i)] v (kq (some (.int 0)) v) := by
  have hu := mx.wd
  have eg := mx.eg
  have hg := mx.hg
  have hw5 := hg.cnt (k := 5) rfl
  obtain ⟨E, g10, g6, hf⟩ := id hX
  have mv := mx.of E
  have hv := mv.wd
  have egv := mv.eg
  refine KC.of (ls := [_, _, _]) rfl rfl (Nat.le_of_ble_eq_true rfl) ?_
  refine kv_aload_n dX12_takes_0 rfl ?_
  refine kv_aload_n dX12_takes_1 rfl ?_
  refine kw_Vi [_] mX12_isAt dX12_takes_2 lX12_207 wX12_isAt kC12 hv rfl (by first | rfl | assumption) rfl rfl rfl (qX12_isAt_e mx hX hi) (by decide) ?_
  refine kv_istore_n (ls2 := [_, _, _]) dX12_takes_5 rfl rfl rfl rfl ?_
  refine kv_iload_n dX12_takes_6 rfl ?_
  refine kv_if_eq dX12_takes_7 14 (by decide) (fun h1 => ?_) (fun h1 => ?_)
  · refine kv_iload_n dX12_takes_14 rfl ?_
    exact kv_zret dX12_takes_15 rfl kv_z0 ⟨rfl, rfl⟩
  · exact absurd h1 (by decide)

set_option maxRecDepth 20000 in
set_option maxHeartbeats 4000000 in
theorem qX12_must_y {w : KW} {l : Launch} {u : KMem} {g : Nat → Int32} {use : Nat} (mx : kpMx u g use) {op : Nat} {v : KMem} {s : KPs} (hX : kpMs u g op s v) {i : Nat} (hi : i < 18) (hM : kpAt g s i) (hlt : s.1 < kN g 5) : KC w l mX12_must 6 0 0 [.ref 413, .ref (10100 + i)] v (fun r z => r = none ∧ kpMs u g op ((kpNx (kpB g) (kN g 5) s.1), s.2) z) := by
  have hu := mx.wd
  have eg := mx.eg
  have hg := mx.hg
  have hw5 := hg.cnt (k := 5) rfl
  obtain ⟨E, g10, g6, g7, g9, gc, gs, hp, hsl⟩ := id hX
  have mv := mx.of E
  have hv := mv.wd
  have egv := mv.eg
  have hte := kpTe_le (B := kpB g) hp
  refine KC.of (ls := [_, _]) rfl rfl (Nat.le_of_ble_eq_true rfl) ?_
  refine kv_aload_n dX12_must_0 rfl ?_
  refine kv_aload_n dX12_must_1 rfl ?_
  refine kv_aload_n dX12_must_2 rfl ?_
  refine kw_VQ [_] mX12_takes dX12_must_3 lX12_214 wX12_takes kC12 hv rfl (by first | rfl | assumption) rfl rfl rfl (qX12_takes_y mx hX hi hM hlt) (by decide) (fun _ v1 q1 => ?_)
  obtain ⟨rfl, x1⟩ := q1
  obtain ⟨E, g10, g6, g7, g9, gc, gs, hp, hsl⟩ := id x1
  have hv1 := E.wd hu
  refine kv_if_ne dX12_must_6 13 (by decide) (fun h1 => ?_) (fun h1 => ?_)
  · refine kv_iconst dX12_must_13 0 ki_0 ?_
    refine kw_pZ dX12_must_14 fX12_196 hv1 (by first | rfl | assumption) rfl rfl (by first | exact Or.inl rfl | exact Or.inr rfl | assumption) ?_
    exact kv_vret dX12_must_17 rfl ⟨rfl, E.si (Or.inl ⟨rfl, by omega⟩), kv_si_s _ _ _ _, by rw [kv_si_n (by omega)]; exact g6, by rw [kv_si_n (by omega)]; exact g7, by rw [kv_si_n (by omega)]; exact g9, by rw [kv_si_n (by omega)]; exact gc, fun i hi => by rw [kv_si_n (by omega)]; exact gs i hi, hp, hsl⟩
  · exact absurd h1 (by decide)

set_option maxRecDepth 20000 in
set_option maxHeartbeats 4000000 in
theorem qX12_must_n {w : KW} {l : Launch} {u : KMem} {g : Nat → Int32} {use : Nat} (mx : kpMx u g use) {op : Nat} {v : KMem} {s : KPs} (hX : kpMs u g op s v) {i : Nat} (hi : i < 18) (hM : ¬ kpAt g s i) : KC w l mX12_must 6 0 0 [.ref 413, .ref (10100 + i)] v (fun r z => r = none ∧ kpMe u s.1 z) := by
  have hu := mx.wd
  have eg := mx.eg
  have hg := mx.hg
  have hw5 := hg.cnt (k := 5) rfl
  obtain ⟨E, g10, g6, g7, g9, gc, gs, hp, hsl⟩ := id hX
  have mv := mx.of E
  have hv := mv.wd
  have egv := mv.eg
  have hte := kpTe_le (B := kpB g) hp
  refine KC.of (ls := [_, _]) rfl rfl (Nat.le_of_ble_eq_true rfl) ?_
  refine kv_aload_n dX12_must_0 rfl ?_
  refine kv_aload_n dX12_must_1 rfl ?_
  refine kv_aload_n dX12_must_2 rfl ?_
  refine kw_Vi [_] mX12_takes dX12_must_3 lX12_214 wX12_takes kC12 hv rfl (by first | rfl | assumption) rfl rfl rfl (qX12_takes_n mx hX hi hM) (by decide) ?_
  refine kv_if_ne dX12_must_6 13 (by decide) (fun h1 => ?_) (fun h1 => ?_)
  · exact absurd h1 (by decide)
  · refine kv_iconst dX12_must_9 1 ki_1 ?_
    refine kv_goto dX12_must_10 14 (by decide) ?_
    refine kw_pZ dX12_must_14 fX12_196 hv (by first | rfl | assumption) rfl rfl (by first | exact Or.inl rfl | exact Or.inr rfl | assumption) ?_
    exact kv_vret dX12_must_17 rfl ⟨rfl, E.si (Or.inl ⟨rfl, by omega⟩), kv_si_s _ _ _ _, by rw [kv_si_n (by omega)]; exact g6, by omega⟩

set_option maxRecDepth 20000 in
set_option maxHeartbeats 4000000 in
theorem qX12_must_e {w : KW} {l : Launch} {u : KMem} {g : Nat → Int32} {use : Nat} (mx : kpMx u g use) {f : Nat} {v : KMem} (hX : kpMe u f v) {i : Nat} (hi : i < 18) : KC w l mX12_must 6 0 0 [.ref 413, .ref (10100 + i)] v (fun r z => r = none ∧ kpMe u f z) := by
  have hu := mx.wd
  have eg := mx.eg
  have hg := mx.hg
  have hw5 := hg.cnt (k := 5) rfl
  obtain ⟨E, g10, g6, hf⟩ := id hX
  have mv := mx.of E
  have hv := mv.wd
  have egv := mv.eg
  refine KC.of (ls := [_, _]) rfl rfl (Nat.le_of_ble_eq_true rfl) ?_
  refine kv_aload_n dX12_must_0 rfl ?_
  refine kv_aload_n dX12_must_1 rfl ?_
  refine kv_aload_n dX12_must_2 rfl ?_
  refine kw_Vi [_] mX12_takes dX12_must_3 lX12_214 wX12_takes kC12 hv rfl (by first | rfl | assumption) rfl rfl rfl (qX12_takes_e mx hX hi) (by decide) ?_
  refine kv_if_ne dX12_must_6 13 (by decide) (fun h1 => ?_) (fun h1 => ?_)
  · exact absurd h1 (by decide)
  · refine kv_iconst dX12_must_9 1 ki_1 ?_
    refine kv_goto dX12_must_10 14 (by decide) ?_
    refine kw_pZ dX12_must_14 fX12_196 hv (by first | rfl | assumption) rfl rfl (by first | exact Or.inl rfl | exact Or.inr rfl | assumption) ?_
    exact kv_vret dX12_must_17 rfl ⟨rfl, E.si (Or.inl ⟨rfl, by omega⟩), kv_si_s _ _ _ _, by rw [kv_si_n (by omega)]; exact g6, by omega⟩

theorem qX12_must {w : KW} {l : Launch} {u : KMem} {g : Nat → Int32} {use : Nat} (mx : kpMx u g use) {op : Nat} {v : KMem} {r : KPt} (hX : kpMr u g op r v) {i : Nat} (hi : i < 18) {c : Int32} (h1 : kv_sl.getD i 0 = 1) (h2 : (kv_sb.getD i []).getD 0 0 = c) (hc : kpSn c) : KC w l mX12_must 6 0 0 [.ref 413, .ref (10100 + i)] v (fun q z => q = none ∧ kpMr u g op (kpBd r (kpEx (kpB g) (kN g 5) c 0)) z) := by
  cases r with
  | error f => exact qX12_must_e mx hX hi
  | ok s =>
    show KC w l mX12_must 6 0 0 [.ref 413, .ref (10100 + i)] v (fun q z => q = none ∧ kpMr u g op (kpEx (kpB g) (kN g 5) c 0 s) z)
    by_cases hw : kpWo (kpB g) (kN g 5) s.1 = c
    · rw [show kpEx (kpB g) (kN g 5) c 0 s = .ok (kpNx (kpB g) (kN g 5) s.1, s.2) from if_pos ⟨hw, by decide⟩]
      exact qX12_must_y mx hX hi ((kpAt_1 h1 h2 hc).mpr hw) ((kpWo_is hc).mp hw).1
    · rw [show kpEx (kpB g) (kN g 5) c 0 s = .error s.1 from if_neg (fun q => hw q.1)]
      exact qX12_must_n mx hX hi (fun q => hw ((kpAt_1 h1 h2 hc).mp q))
set_option maxRecDepth 20000 in
set_option maxHeartbeats 4000000 in
theorem qX12_codes_y {w : KW} {l : Launch} {u : KMem} (hu : kWd u) (v10 : u.2.1 413 10 = 0) {c : Nat} (v11 : u.2.1 413 11 = nI c) (hc : c < 61) (x : Int32) : KC w l mX12_codes 0 0 0 [.ref 413, .int x] u (kq none (kv_si (kv_si u 419 c x) 413 11 (nI (c + 1)))) := by
  refine KC.of (ls := [_, _]) rfl rfl (Nat.le_of_ble_eq_true rfl) ?_
  refine kv_aload_n dX12_codes_0 rfl ?_
  refine kw_gI dX12_codes_1 fX12_196 hu (by first | rfl | assumption) rfl rfl ?_
  rw [v10]
  refine kv_if_ne dX12_codes_4 27 (by decide) (fun h1 => ?_) (fun h1 => ?_)
  · exact absurd rfl h1
  · refine kv_aload_n dX12_codes_7 rfl ?_
    refine kw_gR dX12_codes_8 fX12_34 hu (by first | rfl | assumption) rfl rfl (by first | rfl | assumption) ?_
    refine kv_aload_n dX12_codes_11 rfl ?_
    refine kw_gI dX12_codes_12 fX12_217 hu (by first | rfl | assumption) rfl rfl ?_
    rw [v11]
    refine kv_iload_n dX12_codes_15 rfl ?_
    refine kw_is dX12_codes_16 hu (by first | rfl | assumption) (c) rfl (by omega) rfl ?_
    refine kv_aload_n dX12_codes_17 rfl ?_
    refine kv_dup dX12_codes_18 rfl ?_
    refine kw_gI dX12_codes_19 fX12_217 hu (by first | rfl | assumption) rfl rfl ?_
    rw [kv_si_n (by omega), v11]
    refine kv_iconst dX12_codes_22 1 ki_1 ?_
    refine kv_iadd dX12_codes_23 ?_
    rw [show (nI c + 1 : Int32) = nI (c + 1) from kn_add rfl (show (1 : Int32) = nI 1 from rfl)]
    refine kw_pI dX12_codes_24 fX12_217 hu (by first | rfl | assumption) rfl rfl ?_
    exact kv_vret dX12_codes_27 rfl ⟨rfl, rfl⟩

set_option maxRecDepth 20000 in
set_option maxHeartbeats 4000000 in
theorem qX12_codes_n {w : KW} {l : Launch} {u : KMem} (hu : kWd u) (v10 : u.2.1 413 10 = 1) (x : Int32) : KC w l mX12_codes 0 0 0 [.ref 413, .int x] u (kq none u) := by
  refine KC.of (ls := [_, _]) rfl rfl (Nat.le_of_ble_eq_true rfl) ?_
  refine kv_aload_n dX12_codes_0 rfl ?_
  refine kw_gI dX12_codes_1 fX12_196 hu (by first | rfl | assumption) rfl rfl ?_
  rw [v10]
  refine kv_if_ne dX12_codes_4 27 (by decide) (fun h1 => ?_) (fun h1 => ?_)
  · exact kv_vret dX12_codes_27 rfl ⟨rfl, rfl⟩
  · exact absurd h1 (by decide)

theorem qX12_codes {w : KW} {l : Launch} {u : KMem} {g : Nat → Int32} {use : Nat} (mx : kpMx u g use) {op : Nat} {v : KMem} {r : KPt} (hX : kpMr u g op r v) (x : Int32) (hs : ∀ s, r = .ok s → s.2.length < s.1) : KC w l mX12_codes 0 0 0 [.ref 413, .int x] v (fun q z => q = none ∧ kpMr u g op (kpBd r (kpPu x)) z) := by
  have hw5 := (mx.hg.cnt (k := 5) rfl).2
  cases r with
  | error f => exact kpKC (qX12_codes_n (hX.1.wd mx.wd) hX.2.1 x) (fun r z q => by obtain ⟨rfl, rfl⟩ := q; exact ⟨rfl, hX⟩)
  | ok s =>
    obtain ⟨E, g10, g6, g7, g9, gc, gs, hp, hsl⟩ := id hX
    have hl := hs s rfl
    refine kpKC (qX12_codes_y (E.wd mx.wd) g10 gc (by omega) x) (fun r z q => ?_)
    obtain ⟨rfl, rfl⟩ := q
    refine ⟨rfl, (E.si (Or.inr rfl)).si (Or.inl ⟨rfl, by omega⟩), ?_, ?_, ?_, ?_, ?_, fun i hi => ?_, hp, ?_⟩
    · rw [kv_si_n (by omega), kv_si_n (by omega)]; exact g10
    · rw [kv_si_n (by omega), kv_si_n (by omega)]; exact g6
    · rw [kv_si_n (by omega), kv_si_n (by omega)]; exact g7
    · rw [kv_si_n (by omega), kv_si_n (by omega)]; exact g9
    · rw [kv_si_s, List.length_append]; rfl
    · rw [List.length_append, List.length_singleton] at hi
      rw [kv_si_n (by omega)]
      by_cases q : i = s.2.length
      · subst q; rw [kv_si_s, kpGet]
      · rw [kv_si_n (by omega), kpGetL (by omega)]; exact gs i (by omega)
    · show (s.2 ++ [x]).length ≤ s.1
      rw [List.length_append, List.length_singleton]; omega
set_option maxRecDepth 20000 in
set_option maxHeartbeats 4000000 in
theorem qX12_opens_y {w : KW} {l : Launch} {u : KMem} {g : Nat → Int32} {use : Nat} (mx : kpMx u g use) {op : Nat} {v : KMem} {s : KPs} (hX : kpMs u g op s v) (hlt : s.1 < kN g 5) (h5 : op < 5) : KC w l mX12_opens 3 0 0 [.ref 413] v (fun r z => r = some (.int 1) ∧ kpMs u g (op + 1) ((kpNx (kpB g) (kN g 5) s.1), s.2) z) := by
  have hu := mx.wd
  have eg := mx.eg
  have hg := mx.hg
  have hw5 := hg.cnt (k := 5) rfl
  obtain ⟨E, g10, g6, g7, g9, gc, gs, hp, hsl⟩ := id hX
  have mv := mx.of E
  have hv := mv.wd
  have egv := mv.eg
  have hte := kpTe_le (B := kpB g) hp
  refine KC.of (ls := [_]) rfl rfl (Nat.le_of_ble_eq_true rfl) ?_
  refine kv_aload_n dX12_opens_0 rfl ?_
  refine kv_aload_n dX12_opens_1 rfl ?_
  refine kw_gI dX12_opens_2 fX12_196 hv (by first | rfl | assumption) rfl rfl ?_
  rw [g10]
  refine kv_if_ne dX12_opens_5 16 (by decide) (fun h1 => ?_) (fun h1 => ?_)
  · exact absurd rfl h1
  · refine kv_aload_n dX12_opens_8 rfl ?_
    refine kw_gI dX12_opens_9 fX12_257 hv (by first | rfl | assumption) rfl rfl ?_
    rw [g9]
    refine kv_iconst dX12_opens_12 5 ki_5 ?_
    refine kv_icmp_ne dX12_opens_13 20 (by decide) (fun h2 => ?_) (fun h2 => ?_)
    · refine kv_iconst dX12_opens_20 0 ki_0 ?_
      refine kw_pZ dX12_opens_21 fX12_196 hv (by first | rfl | assumption) rfl rfl (by first | exact Or.inl rfl | exact Or.inr rfl | assumption) ?_
      refine kv_aload_n dX12_opens_24 rfl ?_
      refine kw_gI dX12_opens_25 fX12_196 hv (by first | rfl | assumption) rfl rfl ?_
      rw [kv_si_s]
      refine kv_if_ne dX12_opens_28 45 (by decide) (fun h3 => ?_) (fun h3 => ?_)
      · exact absurd rfl h3
      · refine kv_aload_n dX12_opens_31 rfl ?_
        refine kv_dup dX12_opens_32 rfl ?_
        refine kw_gI dX12_opens_33 fX12_257 hv (by first | rfl | assumption) rfl rfl ?_
        rw [kv_si_n (by omega), g9]
        refine kv_iconst dX12_opens_36 1 ki_1 ?_
        refine kv_iadd dX12_opens_37 ?_
        rw [show (nI op + 1 : Int32) = nI (op + 1) from kn_add rfl (show (1 : Int32) = nI 1 from rfl)]
        refine kw_pI dX12_opens_38 fX12_257 hv (by first | rfl | assumption) rfl rfl ?_
        have E4 : kEq kpN u (kv_si (kv_si v 413 10 0) 413 9 (nI (op + 1))) := (E.si (Or.inl ⟨rfl, by omega⟩)).si (Or.inl ⟨rfl, by omega⟩)
        have m4 := mx.of E4
        have hu4 := m4.wd
        refine kv_aload_n dX12_opens_41 rfl ?_
        refine kw_VQ [] mX12_goOn dX12_opens_42 lX12_211 wX12_goOn kC12 hu4 rfl (by first | rfl | assumption) rfl rfl rfl (qX12_goOn m4 (kpTe (kpB g) (kN g 5) s.1) hte.2 (by rw [kv_si_n (by omega), kv_si_n (by omega)]; exact g7)) (by decide) (fun _ v1 q1 => ?_)
        obtain ⟨rfl, es, z6, z7⟩ := q1
        have hvs := es.wd m4.wd
        refine kv_aload_n dX12_opens_45 rfl ?_
        refine kw_gI dX12_opens_46 fX12_196 hvs (by first | rfl | assumption) rfl rfl ?_
        rw [(es.2.2.1 _ _ (by unfold kpS2; omega)).trans ((kv_si_n (by omega)).trans (kv_si_s _ _ _ _))]
        refine kv_if_ne dX12_opens_49 56 (by decide) (fun h4 => ?_) (fun h4 => ?_)
        · exact absurd rfl h4
        · refine kv_iconst dX12_opens_52 1 ki_1 ?_
          refine kv_goto dX12_opens_53 57 (by decide) ?_
          exact kv_zret dX12_opens_57 rfl kv_z1 ⟨rfl, kpMs.next hlt E4 (by rw [kv_si_n (by omega), kv_si_s]) (kv_si_s _ _ _ _) (by rw [kv_si_n (by omega), kv_si_n (by omega)]; exact gc) (fun i hi => by rw [kv_si_n (by omega), kv_si_n (by omega)]; exact gs i hi) (by omega) es z6 z7⟩
    · exact absurd ((nI_eq (b := 5) (by omega) (by omega)).mp h2) (by omega)

set_option maxRecDepth 20000 in
set_option maxHeartbeats 4000000 in
theorem qX12_opens_n {w : KW} {l : Launch} {u : KMem} {g : Nat → Int32} {use : Nat} (mx : kpMx u g use) {op : Nat} {v : KMem} {s : KPs} (hX : kpMs u g op s v) (h5 : ¬ op < 5) (ho : op ≤ 5) : KC w l mX12_opens 3 0 0 [.ref 413] v (fun r z => r = some (.int 0) ∧ kpMe u s.1 z) := by
  have hu := mx.wd
  have eg := mx.eg
  have hg := mx.hg
  have hw5 := hg.cnt (k := 5) rfl
  obtain ⟨E, g10, g6, g7, g9, gc, gs, hp, hsl⟩ := id hX
  have mv := mx.of E
  have hv := mv.wd
  have egv := mv.eg
  have hte := kpTe_le (B := kpB g) hp
  refine KC.of (ls := [_]) rfl rfl (Nat.le_of_ble_eq_true rfl) ?_
  refine kv_aload_n dX12_opens_0 rfl ?_
  refine kv_aload_n dX12_opens_1 rfl ?_
  refine kw_gI dX12_opens_2 fX12_196 hv (by first | rfl | assumption) rfl rfl ?_
  rw [g10]
  refine kv_if_ne dX12_opens_5 16 (by decide) (fun h1 => ?_) (fun h1 => ?_)
  · exact absurd rfl h1
  · refine kv_aload_n dX12_opens_8 rfl ?_
    refine kw_gI dX12_opens_9 fX12_257 hv (by first | rfl | assumption) rfl rfl ?_
    rw [g9]
    refine kv_iconst dX12_opens_12 5 ki_5 ?_
    refine kv_icmp_ne dX12_opens_13 20 (by decide) (fun h2 => ?_) (fun h2 => ?_)
    · exact absurd (by rw [show op = 5 by omega]; rfl) h2
    · refine kv_iconst dX12_opens_16 1 ki_1 ?_
      refine kv_goto dX12_opens_17 21 (by decide) ?_
      refine kw_pZ dX12_opens_21 fX12_196 hv (by first | rfl | assumption) rfl rfl (by first | exact Or.inl rfl | exact Or.inr rfl | assumption) ?_
      refine kv_aload_n dX12_opens_24 rfl ?_
      refine kw_gI dX12_opens_25 fX12_196 hv (by first | rfl | assumption) rfl rfl ?_
      rw [kv_si_s]
      refine kv_if_ne dX12_opens_28 45 (by decide) (fun h3 => ?_) (fun h3 => ?_)
      · refine kv_aload_n dX12_opens_45 rfl ?_
        refine kw_gI dX12_opens_46 fX12_196 hv (by first | rfl | assumption) rfl rfl ?_
        rw [kv_si_s]
        refine kv_if_ne dX12_opens_49 56 (by decide) (fun h4 => ?_) (fun h4 => ?_)
        · refine kv_iconst dX12_opens_56 0 ki_0 ?_
          exact kv_zret dX12_opens_57 rfl kv_z0 ⟨rfl, E.si (Or.inl ⟨rfl, by omega⟩), kv_si_s _ _ _ _, by rw [kv_si_n (by omega)]; exact g6, by omega⟩
        · exact absurd h4 (by decide)
      · exact absurd h3 (by decide)

set_option maxRecDepth 20000 in
set_option maxHeartbeats 4000000 in
theorem qX12_opens_e {w : KW} {l : Launch} {u : KMem} {g : Nat → Int32} {use : Nat} (mx : kpMx u g use) {f : Nat} {v : KMem} (hX : kpMe u f v) : KC w l mX12_opens 3 0 0 [.ref 413] v (fun r z => r = some (.int 0) ∧ kpMe u f z) := by
  have hu := mx.wd
  have eg := mx.eg
  have hg := mx.hg
  have hw5 := hg.cnt (k := 5) rfl
  obtain ⟨E, g10, g6, hf⟩ := id hX
  have mv := mx.of E
  have hv := mv.wd
  have egv := mv.eg
  refine KC.of (ls := [_]) rfl rfl (Nat.le_of_ble_eq_true rfl) ?_
  refine kv_aload_n dX12_opens_0 rfl ?_
  refine kv_aload_n dX12_opens_1 rfl ?_
  refine kw_gI dX12_opens_2 fX12_196 hv (by first | rfl | assumption) rfl rfl ?_
  rw [g10]
  refine kv_if_ne dX12_opens_5 16 (by decide) (fun h1 => ?_) (fun h1 => ?_)
  · refine kv_iconst dX12_opens_16 1 ki_1 ?_
    refine kv_goto dX12_opens_17 21 (by decide) ?_
    refine kw_pZ dX12_opens_21 fX12_196 hv (by first | rfl | assumption) rfl rfl (by first | exact Or.inl rfl | exact Or.inr rfl | assumption) ?_
    refine kv_aload_n dX12_opens_24 rfl ?_
    refine kw_gI dX12_opens_25 fX12_196 hv (by first | rfl | assumption) rfl rfl ?_
    rw [kv_si_s]
    refine kv_if_ne dX12_opens_28 45 (by decide) (fun h2 => ?_) (fun h2 => ?_)
    · refine kv_aload_n dX12_opens_45 rfl ?_
      refine kw_gI dX12_opens_46 fX12_196 hv (by first | rfl | assumption) rfl rfl ?_
      rw [kv_si_s]
      refine kv_if_ne dX12_opens_49 56 (by decide) (fun h3 => ?_) (fun h3 => ?_)
      · refine kv_iconst dX12_opens_56 0 ki_0 ?_
        exact kv_zret dX12_opens_57 rfl kv_z0 ⟨rfl, E.si (Or.inl ⟨rfl, by omega⟩), kv_si_s _ _ _ _, by rw [kv_si_n (by omega)]; exact g6, by omega⟩
      · exact absurd h3 (by decide)
    · exact absurd h2 (by decide)
  · exact absurd h1 (by decide)

