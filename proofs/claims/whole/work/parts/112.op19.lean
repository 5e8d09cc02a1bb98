/-! image, restore -/
theorem kw_SQ {w : KW} {l : Launch} {mm : KM} {dd nc ns pc : Nat} {ls : List (Option Value)} {rest : List Value} {u : KMem} {Q : Option Value → KMem → Prop} (as : List Value) (m2 : KM) {Q2 : Option Value → KMem → Prop} {st : List Value} {d2 n idx : Nat} (d : decode mm.2.1 pc = .ok (.invokestatic idx, 3)) (hl : Cond.methodLink mm.1.cls idx m2.1 ∈ kv_tb) (hm : kv_MS m2 n) (hst : as.reverse ++ rest = st) (hn : as.length = n) (h8 : Nat.ble (kv_r8 rest) 8 = true) (hc : KC w l m2 d2 0 0 as u Q2) (hd : d2 + 1 ≤ dd)
    (kk : ∀ r v, Q2 r v → KV w l mm dd nc ns (pc + 3) ls (r.toList ++ rest) v Q) : KV w l mm dd nc ns pc ls st u Q := by
  subst hst
  exact kv_callS as d hl hm hc hn h8 hd (Nat.zero_le _) (Nat.zero_le _) kk
def kCpy (f h : Nat → Int32) (n : Nat) : Nat → Int32 := fun k => if k < n then f k else h k
theorem kCpy_0 (f h : Nat → Int32) : kCpy f h 0 = h := funext fun k => if_neg (Nat.not_lt_zero k)
theorem kCpy_s {f h : Nat → Int32} {n k : Nat} (q : k < n) : kCpy f h n k = f k := if_pos q
theorem kCpy_step (f h : Nat → Int32) (n : Nat) : kSet (kCpy f h n) n (f n) = kCpy f h (n + 1) := by
  funext k
  by_cases q : k = n
  · rw [q, kSet_s, kCpy_s (by omega)]
  · rw [kSet_n q]
    by_cases z : k < n
    · rw [kCpy_s z, kCpy_s (by omega)]
    · exact (if_neg z).trans (if_neg (by omega)).symm
def kimage (a : KA) : Int32 × KA := (a 2 0 + 1, kUp1 (kUp1 a 1 (kCpy (a 0) (a 1) 1421)) 2 (kSet (a 2) 0 (a 2 0 + 1)))
def krestore (a : KA) : Int32 × KA := if a 2 0 = 0 then (-1000002, kF a 2) else (a 1 2, kUp1 a 0 (kCpy (a 1) (a 0) 1421))
set_option maxRecDepth 20000 in
set_option maxHeartbeats 4000000 in
theorem qX12_copy_I {w : KW} {l : Launch} {u : KMem} (hu : kWd u) {f h : Nat → Int32} (ef : u.2.1 414 = f) (eh : u.2.1 415 = h) : KC w l mX12_copy 0 0 0 [.ref 414, .ref 415] u (fun r z => r = none ∧ kWd z ∧ z.2.1 415 = kCpy f h 1421 ∧ ∀ b, b ≠ 415 → z.2.1 b = u.2.1 b) := by
  refine KC.of (ls := [_, _, _]) rfl rfl (Nat.le_of_ble_eq_true rfl) ?_
  refine kv_iconst dX12_copy_0 0 ki_0 ?_
  refine kv_istore_n (ls2 := [_, _, _]) dX12_copy_1 rfl rfl rfl rfl ?_
  refine KV.loc (ls2 := [some (.ref 414), some (.ref 415), some (.int (nI (0)))]) ?_ (ksS rfl (ksS rfl (ksS rfl ksN)))
  refine kn_loop (P := fun i => ∀ v : KMem, kWd v → v.2.1 415 = kCpy f h i → (∀ b, b ≠ 415 → v.2.1 b = u.2.1 b) → KV w l mX12_copy 0 0 0 2 [some (.ref 414), some (.ref 415), some (.int (nI i))] [] v (fun r z => r = none ∧ kWd z ∧ z.2.1 415 = kCpy f h 1421 ∧ ∀ b, b ≠ 415 → z.2.1 b = u.2.1 b)) (1421) ?_ (fun i hi ih => ?_) u hu (by rw [kCpy_0]; exact eh) (fun b _ => rfl)
  · intro v hv er ev
    refine kv_iload_n dX12_copy_2 rfl ?_
    refine kv_sipush dX12_copy_3 1421 kz_1421 ?_
    refine kv_icmp_ge dX12_copy_6 21 (by decide) (fun h1 => ?_) (fun h1 => ?_)
    · exact kv_vret dX12_copy_21 rfl ⟨rfl, hv, er, ev⟩
    · exact absurd (Int32.le_refl (nI 1421)) h1
  · intro v hv er ev
    have ex : v.2.1 414 = f := (ev 414 (by decide)).trans ef
    refine kv_iload_n dX12_copy_2 rfl ?_
    refine kv_sipush dX12_copy_3 1421 kz_1421 ?_
    refine kv_icmp_ge dX12_copy_6 21 (by decide) (fun h2 => ?_) (fun h2 => ?_)
    · exact absurd h2 (kn_ge (n := 1421) hi (by omega))
    · refine kv_aload_n dX12_copy_9 rfl ?_
      refine kv_iload_n dX12_copy_10 rfl ?_
      refine kv_aload_n dX12_copy_11 rfl ?_
      refine kv_iload_n dX12_copy_12 rfl ?_
      refine kw_il dX12_copy_13 hv (by first | rfl | assumption) (i) rfl (by omega) rfl ?_
      rw [ex]
      refine kw_is dX12_copy_14 hv (by first | rfl | assumption) (i) rfl (by omega) rfl ?_
      refine kv_iinc (ls2 := [_, _, _]) dX12_copy_15 (nI (i + 1)) rfl (kv_inc1 i) rfl rfl rfl rfl ?_
      refine kv_goto dX12_copy_18 2 (by decide) ?_
      exact KV.loc (ih _ hv (by rw [kv_si_set, er, kCpy_step]) (fun b hb => by rw [kv_si_row hb]; exact ev b hb)) (ksS rfl (ksS rfl (ksS rfl ksN)))

set_option maxRecDepth 20000 in
set_option maxHeartbeats 4000000 in
theorem qX12_copy_R {w : KW} {l : Launch} {u : KMem} (hu : kWd u) {f h : Nat → Int32} (ef : u.2.1 415 = f) (eh : u.2.1 414 = h) : KC w l mX12_copy 0 0 0 [.ref 415, .ref 414] u (fun r z => r = none ∧ kWd z ∧ z.2.1 414 = kCpy f h 1421 ∧ ∀ b, b ≠ 414 → z.2.1 b = u.2.1 b) := by
  refine KC.of (ls := [_, _, _]) rfl rfl (Nat.le_of_ble_eq_true rfl) ?_
  refine kv_iconst dX12_copy_0 0 ki_0 ?_
  refine kv_istore_n (ls2 := [_, _, _]) dX12_copy_1 rfl rfl rfl rfl ?_
  refine KV.loc (ls2 := [some (.ref 415), some (.ref 414), some (.int (nI (0)))]) ?_ (ksS rfl (ksS rfl (ksS rfl ksN)))
  refine kn_loop (P := fun i => ∀ v : KMem, kWd v → v.2.1 414 = kCpy f h i → (∀ b, b ≠ 414 → v.2.1 b = u.2.1 b) → KV w l mX12_copy 0 0 0 2 [some (.ref 415), some (.ref 414), some (.int (nI i))] [] v (fun r z => r = none ∧ kWd z ∧ z.2.1 414 = kCpy f h 1421 ∧ ∀ b, b ≠ 414 → z.2.1 b = u.2.1 b)) (1421) ?_ (fun i hi ih => ?_) u hu (by rw [kCpy_0]; exact eh) (fun b _ => rfl)
  · intro v hv er ev
    refine kv_iload_n dX12_copy_2 rfl ?_
    refine kv_sipush dX12_copy_3 1421 kz_1421 ?_
    refine kv_icmp_ge dX12_copy_6 21 (by decide) (fun h1 => ?_) (fun h1 => ?_)
    · exact kv_vret dX12_copy_21 rfl ⟨rfl, hv, er, ev⟩
    · exact absurd (Int32.le_refl (nI 1421)) h1
  · intro v hv er ev
    have ex : v.2.1 415 = f := (ev 415 (by decide)).trans ef
    refine kv_iload_n dX12_copy_2 rfl ?_
    refine kv_sipush dX12_copy_3 1421 kz_1421 ?_
    refine kv_icmp_ge dX12_copy_6 21 (by decide) (fun h2 => ?_) (fun h2 => ?_)
    · exact absurd h2 (kn_ge (n := 1421) hi (by omega))
    · refine kv_aload_n dX12_copy_9 rfl ?_
      refine kv_iload_n dX12_copy_10 rfl ?_
      refine kv_aload_n dX12_copy_11 rfl ?_
      refine kv_iload_n dX12_copy_12 rfl ?_
      refine kw_il dX12_copy_13 hv (by first | rfl | assumption) (i) rfl (by omega) rfl ?_
      rw [ex]
      refine kw_is dX12_copy_14 hv (by first | rfl | assumption) (i) rfl (by omega) rfl ?_
      refine kv_iinc (ls2 := [_, _, _]) dX12_copy_15 (nI (i + 1)) rfl (kv_inc1 i) rfl rfl rfl rfl ?_
      refine kv_goto dX12_copy_18 2 (by decide) ?_
      exact KV.loc (ih _ hv (by rw [kv_si_set, er, kCpy_step]) (fun b hb => by rw [kv_si_row hb]; exact ev b hb)) (ksS rfl (ksS rfl (ksS rfl ksN)))

set_option maxRecDepth 20000 in
set_option maxHeartbeats 4000000 in
theorem qX11_image {w : KW} {l : Launch} {u : KMem} (hu : kWd u) {a : KA} (hx : kRX a u) (ho : kOk a) : KC w l mX11_image 3 0 0 [.ref 0] u (kOX u (kimage a).1 (kimage a).2) := by
  have hr := hx.1
  have hg := ho.1
  have hx20 := (hg.cnt (k := 2) rfl).2
  have hc30 := (hg.cnt (k := 0) rfl).2
  have ht10 := (hg.cnt (k := 3) rfl).2
  have he40 := (hg.cnt (k := 4) rfl).2
  have hs16 := hg.cnt (k := 1) rfl
  refine KC.of (ls := [_]) rfl rfl (Nat.le_of_ble_eq_true rfl) ?_
  refine kv_aload_n dX11_image_0 rfl ?_
  refine kw_gR dX11_image_1 fX11_16 hu (by first | rfl | assumption) rfl rfl (by first | rfl | assumption) ?_
  refine kv_aload_n dX11_image_4 rfl ?_
  refine kw_gR dX11_image_5 fX11_12 hu (by first | rfl | assumption) rfl rfl (by first | rfl | assumption) ?_
  refine kw_VQ [_] mX7_copyFrom dX11_image_8 lX11_405 wX7_copyFrom kC7 hu rfl (by first | rfl | assumption) rfl rfl rfl (qX7_copyFrom_I hu hr hg) (by decide) (fun _ v1 q1 => ?_)
  obtain ⟨rfl, hc⟩ := q1
  refine kv_aload_n dX11_image_11 rfl ?_
  refine kv_dup dX11_image_12 rfl ?_
  refine kw_gI dX11_image_13 fX11_408 hc.1 (by first | rfl | assumption) rfl rfl ?_
  rw [(show v1.2.1 0 9 = a 2 0 from (hc.2.1 0 9 (by omega)).trans hx.2.2.1)]
  refine kv_iconst dX11_image_16 1 ki_1 ?_
  refine kv_iadd dX11_image_17 ?_
  refine kw_pI dX11_image_18 fX11_408 hc.1 (by first | rfl | assumption) rfl rfl ?_
  refine kv_aload_n dX11_image_21 rfl ?_
  refine kw_gI dX11_image_22 fX11_408 hc.1 (by first | rfl | assumption) rfl rfl ?_
  rw [kv_si_s]
  exact kv_iret dX11_image_25 rfl (by
      have E : ∀ i, i < 1421 → kCpy (a 0) (a 1) 1421 i = a 0 i := fun i hi => kCpy_s hi
      have V : ∀ b k, ¬ (193 ≤ b ∧ b < 193 + 192) → ¬ (b = 0 ∧ k = 9) → (kv_si v1 0 9 (a 2 0 + 1)).2.1 b k = u.2.1 b k := fun b k q1 q2 => (kv_si_n q2).trans (hc.2.1 b k q1)
      have h30 := (ho.2.2.1.n (by omega)).2
      have kk : kRS 193 (kCpy (a 0) (a 1) 1421) (kv_si v1 0 9 (a 2 0 + 1)) := ((hr.cp hg hc).c hg E).of (fun b k q1 q2 => kv_si_n (by omega)) (hg.c E)
      obtain ⟨h1, h2, h3, h4, h5, h6, h7⟩ := hx
      refine ⟨rfl, hc.1, fun b hb => funext fun k => V b k (by omega) (by omega), h1.of (fun b k q1 q2 => V b k (by omega) (by omega)) hg, ⟨fun _ => kk, (V _ _ (by omega) (by omega)).trans h2.2⟩, ?_, fun k hk => (V _ _ (by omega) (by omega)).trans (h4 k hk), (V _ _ (by omega) (by omega)).trans h5, fun k hk => (V _ _ (by omega) (by omega)).trans (h6 k hk), fun i hi => ⟨(V _ _ (by omega) (by omega)).trans (h7 i hi).1, (V _ _ (by omega) (by omega)).trans (h7 i hi).2.1, fun k hk => (V _ _ (by omega) (by omega)).trans ((h7 i hi).2.2 k hk)⟩⟩
      exact (kv_si_s _ _ _ _).trans (show a 2 0 + 1 = kSet (a 2) 0 (a 2 0 + 1) 0 from (kSet_s _ _ _).symm))

set_option maxRecDepth 20000 in
set_option maxHeartbeats 4000000 in
theorem qX12_image {w : KW} {l : Launch} {u : KMem} (hu : kWd u) {a : KA} (hm : kRM a u) (ho : kOk a) : KC w l mX12_image 1 0 0 [.ref 413] u (kOM u (kimage a).1 (kimage a).2) := by
  have eg := hm.1
  have hg := ho.1
  have hx20 := (hg.cnt (k := 2) rfl).2
  have hc30 := (hg.cnt (k := 0) rfl).2
  have ht10 := (hg.cnt (k := 3) rfl).2
  have he40 := (hg.cnt (k := 4) rfl).2
  have hs16 := hg.cnt (k := 1) rfl
  refine KC.of (ls := [_]) rfl rfl (Nat.le_of_ble_eq_true rfl) ?_
  refine kv_aload_n dX12_image_0 rfl ?_
  refine kw_gR dX12_image_1 fX12_9 hu (by first | rfl | assumption) rfl rfl (by first | rfl | assumption) ?_
  refine kv_aload_n dX12_image_4 rfl ?_
  refine kw_gR dX12_image_5 fX12_13 hu (by first | rfl | assumption) rfl rfl (by first | rfl | assumption) ?_
  refine kw_SQ [_, _] mX12_copy dX12_image_8 lX12_391 wX12_copy rfl rfl rfl (qX12_copy_I hu hm.1 hm.2.1) (by decide) (fun _ v1 q1 => ?_)
  obtain ⟨rfl, hv1, er, ec⟩ := q1
  refine kv_aload_n dX12_image_11 rfl ?_
  refine kv_dup dX12_image_12 rfl ?_
  refine kw_gI dX12_image_13 fX12_395 hv1 (by first | rfl | assumption) rfl rfl ?_
  rw [(show v1.2.1 413 2 = a 2 0 from (congrFun (ec 413 (by decide)) 2).trans hm.2.2.1)]
  refine kv_iconst dX12_image_16 1 ki_1 ?_
  refine kv_iadd dX12_image_17 ?_
  refine kw_pI dX12_image_18 fX12_395 hv1 (by first | rfl | assumption) rfl rfl ?_
  refine kv_aload_n dX12_image_21 rfl ?_
  refine kw_gI dX12_image_22 fX12_395 hv1 (by first | rfl | assumption) rfl rfl ?_
  rw [kv_si_s]
  exact kv_iret dX12_image_25 rfl (by
      have V : ∀ b, b ≠ 415 → b ≠ 413 → (kv_si v1 413 2 (a 2 0 + 1)).2.1 b = u.2.1 b := fun b q1 q2 => (kv_si_row q2).trans (ec b q1)
      obtain ⟨q1, q2, q3, q4, q5, q6, q7, q8, q9, qA⟩ := hm
      exact ⟨rfl, hv1, fun b hb => V b (by omega) (by omega), (V _ (by omega) (by omega)).trans q1, (kv_si_row (by omega)).trans er, (kv_si_s _ _ _ _).trans (show a 2 0 + 1 = kSet (a 2) 0 (a 2 0 + 1) 0 from (kSet_s _ _ _).symm), (V _ (by omega) (by omega)).trans q4, (V _ (by omega) (by omega)).trans q5, (kv_si_n (by omega)).trans ((congrFun (ec 413 (by decide)) 24).trans q6), (V _ (by omega) (by omega)).trans q7, (V _ (by omega) (by omega)).trans q8, (V _ (by omega) (by omega)).trans q9, ⟨fun k hk => (congrFun (V 417 (by omega) (by omega)) k).trans (qA.1 k hk), (congrFun (V 423 (by omega) (by omega)) 0).trans qA.2⟩⟩)

theorem kimage_ok {a : KA} (ho : kOk a) : kOk (kimage a).2 := ⟨ho.1, fun _ => ho.1.c (fun i hi => kCpy_s hi), ho.2.2.1, ho.2.2.2⟩
set_option maxRecDepth 20000 in
set_option maxHeartbeats 4000000 in
theorem qX11_restore {w : KW} {l : Launch} {u : KMem} (hu : kWd u) {a : KA} (hx : kRX a u) (ho : kOk a) : KC w l mX11_restore 3 0 0 [.ref 0] u (kOX u (krestore a).1 (krestore a).2) := by
  have hr := hx.1
  have hg := ho.1
  have hx20 := (hg.cnt (k := 2) rfl).2
  have hc30 := (hg.cnt (k := 0) rfl).2
  have ht10 := (hg.cnt (k := 3) rfl).2
  have he40 := (hg.cnt (k := 4) rfl).2
  have hs16 := hg.cnt (k := 1) rfl
  refine KC.of (ls := [_]) rfl rfl (Nat.le_of_ble_eq_true rfl) ?_
  refine kv_aload_n dX11_restore_0 rfl ?_
  refine kw_gI dX11_restore_1 fX11_408 hu (by first | rfl | assumption) rfl rfl ?_
  refine kv_if_ne dX11_restore_4 14 (by decide) (fun h1 => ?_) (fun h1 => ?_)
  · rw [hx.2.2.1] at h1
    have hS : krestore a = _ := if_neg h1
    have hr3 := hx.2.1.1 h1
    have hg3 := ho.2.1 h1
    refine kv_aload_n dX11_restore_14 rfl ?_
    refine kw_gR dX11_restore_15 fX11_12 hu (by first | rfl | assumption) rfl rfl (by first | rfl | assumption) ?_
    refine kv_aload_n dX11_restore_18 rfl ?_
    refine kw_gR dX11_restore_19 fX11_16 hu (by first | rfl | assumption) rfl rfl (by first | rfl | assumption) ?_
    refine kw_VQ [_] mX7_copyFrom dX11_restore_22 lX11_405 wX7_copyFrom kC7 hu rfl (by first | rfl | assumption) rfl rfl rfl (qX7_copyFrom_R hu hr3 hg3) (by decide) (fun _ v1 q1 => ?_)
    obtain ⟨rfl, hc⟩ := q1
    refine kv_aload_n dX11_restore_25 rfl ?_
    refine kw_gR dX11_restore_26 fX11_12 hc.1 (by first | rfl | assumption) rfl rfl (by first | rfl | assumption) ?_
    refine kw_gI dX11_restore_29 fX11_134 hc.1 (by first | rfl | assumption) rfl rfl ?_
    rw [(show v1.2.1 1 7 = a 1 2 from (hc.2.2 0 7 (by omega) (Or.inl (by unfold kZc0; omega))).trans hr3.1.2.2.1)]
    exact kv_iret dX11_restore_32 rfl (by
        have E : ∀ i, i < 1421 → kCpy (a 1) (a 0) 1421 i = a 1 i := fun i hi => kCpy_s hi
        rw [hS]
        exact ⟨rfl, hc.1, fun b hb => funext fun k => hc.2.1 b k (by omega), hx.now ho ((hr3.cp hg3 hc).c hg3 E) (fun b k hb _ => hc.2.1 b k (by omega))⟩)
  · rw [hx.2.2.1] at h1
    have hS : krestore a = _ := if_pos h1
    refine kv_aload_n dX11_restore_7 rfl ?_
    refine kv_ldc dX11_restore_8 kX11_248 ?_
    refine kw_Vi [_] mX11_refuse dX11_restore_10 lX11_75 wX11_refuse kC11 hu rfl (by first | rfl | assumption) rfl rfl rfl (qX11_refuse (by exact hu) 2 (by decide) (by decide) _ (by decide)) (by decide) ?_
    exact kv_iret dX11_restore_13 rfl (by rw [hS]; exact kOX.no hx ho hu (by decide) rfl)

set_option maxRecDepth 20000 in
set_option maxHeartbeats 4000000 in
theorem qX12_restore {w : KW} {l : Launch} {u : KMem} (hu : kWd u) {a : KA} (hm : kRM a u) (ho : kOk a) : KC w l mX12_restore 1 0 0 [.ref 413] u (kOM u (krestore a).1 (krestore a).2) := by
  have eg := hm.1
  have hg := ho.1
  have hx20 := (hg.cnt (k := 2) rfl).2
  have hc30 := (hg.cnt (k := 0) rfl).2
  have ht10 := (hg.cnt (k := 3) rfl).2
  have he40 := (hg.cnt (k := 4) rfl).2
  have hs16 := hg.cnt (k := 1) rfl
  refine KC.of (ls := [_]) rfl rfl (Nat.le_of_ble_eq_true rfl) ?_
  refine kv_aload_n dX12_restore_0 rfl ?_
  refine kw_gI dX12_restore_1 fX12_395 hu (by first | rfl | assumption) rfl rfl ?_
  refine kv_if_ne dX12_restore_4 15 (by decide) (fun h1 => ?_) (fun h1 => ?_)
  · rw [hm.2.2.1] at h1
    have hS : krestore a = _ := if_neg h1
    refine kv_aload_n dX12_restore_15 rfl ?_
    refine kw_gR dX12_restore_16 fX12_13 hu (by first | rfl | assumption) rfl rfl (by first | rfl | assumption) ?_
    refine kv_aload_n dX12_restore_19 rfl ?_
    refine kw_gR dX12_restore_20 fX12_9 hu (by first | rfl | assumption) rfl rfl (by first | rfl | assumption) ?_
    refine kw_SQ [_, _] mX12_copy dX12_restore_23 lX12_391 wX12_copy rfl rfl rfl (qX12_copy_R hu hm.2.1 hm.1) (by decide) (fun _ v1 q1 => ?_)
    obtain ⟨rfl, hv1, er, ec⟩ := q1
    refine kv_aload_n dX12_restore_26 rfl ?_
    refine kw_gR dX12_restore_27 fX12_9 hv1 (by first | rfl | assumption) rfl rfl (by first | rfl | assumption) ?_
    refine kv_iconst dX12_restore_30 2 ki_2 ?_
    refine kw_ig dX12_restore_31 hv1 er rfl (2) (show (2 : Int32) = nI 2 from rfl) (by omega) rfl ?_
    rw [kCpy_s (by omega)]
    exact kv_iret dX12_restore_32 rfl (by rw [hS]; exact ⟨rfl, hv1, fun b hb => ec b (by omega), hm.now er (fun b hb => ec b (by omega)) (ec 413 (by omega))⟩)
  · rw [hm.2.2.1] at h1
    have hS : krestore a = _ := if_pos h1
    refine kv_aload_n dX12_restore_7 rfl ?_
    refine kv_ldcw dX12_restore_8 kX12_287 ?_
    refine kw_Vi [_] mX12_finding dX12_restore_11 lX12_84 wX12_finding kC12 hu rfl (by first | rfl | assumption) rfl rfl rfl (qX12_finding (by exact hu) 2 (by decide) (by decide) _ (by decide)) (by decide) ?_
    exact kv_iret dX12_restore_14 rfl (by rw [hS]; exact kOM.no hm hu rfl)

theorem krestore_ok {a : KA} (ho : kOk a) : kOk (krestore a).2 := by
  unfold krestore
  split
  · exact ho.fnd 2
  · rename_i h
    exact ho.now ((ho.2.1 h).c (fun i hi => kCpy_s hi))
