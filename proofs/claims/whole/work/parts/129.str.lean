/-! TEXTS: length and charAt of the JDK over the model's literals -/
theorem kv_sl_a : ∀ i, i < 18 → nI (kv_sl.getD i 0) >>> ((0 : Int32) &&& 31) = nI (kv_sl.getD i 0) ∧ kv_sl.getD i 0 < 100 := by decide +kernel
section KVStr
variable {w : KW} {l : Launch} {mm : KM} {dd nc ns pc : Nat} {ls : List (Option Value)} {rest : List Value} {u : KMem} {Q : Option Value → KMem → Prop}
theorem kv_ads {w : KW} (i : Nat) : kv_co w (.ref (10100 + i)) = .ref (w.2.1 (100 + i)) := by
  refine congrArg Value.ref ?_
  have := kv_adc (w := w) (100 + i)
  rw [← this]
  congr 1
  omega
theorem kv_adv {w : KW} (i : Nat) : kv_co w (.ref (10200 + i)) = .ref (w.2.1 (200 + i)) := by
  refine congrArg Value.ref ?_
  have := kv_adc (w := w) (200 + i)
  rw [← this]
  congr 1
  omega
theorem kv_strV {idx i : Nat} (d : decode mm.2.1 pc = .ok (.getfield idx, 3)) (hlk : Cond.fieldLink mm.1.cls idx "java/lang/String" "value" "[B" ∈ kv_tb) (hi : i < 18)
    (kk : KV w l mm dd nc ns (pc + 3) ls (.ref (10200 + i) :: rest) u Q) : KV w l mm dd nc ns pc ls (.ref (10100 + i) :: rest) u Q := by
  intro p e R s m args below meth c H locs cells slots mc ms arr F S M L c1 c2
  obtain ⟨hx, hb, hr, hlo, hml, hown, hnme, hts, hfr, hlc, hmc, hms, hK, hKC, -⟩ := id F
  rw [List.map_cons, kv_ads]
  refine vk_getf hx hb (hKC.2.1.1 i hi).2.2.1 S hown (hts _ hlk) (fun _ h => h) d ?_
  have h := kk p e R s m args below meth c H locs cells slots mc ms arr F S M L c1 c2
  rw [List.map_cons, kv_adv] at h
  exact h
theorem kv_strC {idx i : Nat} (d : decode mm.2.1 pc = .ok (.getfield idx, 3)) (hlk : Cond.fieldLink mm.1.cls idx "java/lang/String" "coder" "B" ∈ kv_tb) (hi : i < 18)
    (kk : KV w l mm dd nc ns (pc + 3) ls (.int 0 :: rest) u Q) : KV w l mm dd nc ns pc ls (.ref (10100 + i) :: rest) u Q := by
  intro p e R s m args below meth c H locs cells slots mc ms arr F S M L c1 c2
  obtain ⟨hx, hb, hr, hlo, hml, hown, hnme, hts, hfr, hlc, hmc, hms, hK, hKC, -⟩ := id F
  rw [List.map_cons, kv_ads]
  refine vk_getf hx hb (hKC.2.1.1 i hi).2.1 S hown (hts _ hlk) (fun _ h => h) d ?_
  exact kk p e R s m args below meth c H locs cells slots mc ms arr F S M L c1 c2
theorem kv_strZ {idx : Nat} (d : decode mm.2.1 pc = .ok (.getstatic idx, 3)) (hlk : Cond.fieldLink mm.1.cls idx "java/lang/String" "COMPACT_STRINGS" "Z" ∈ kv_tb)
    (kk : KV w l mm dd nc ns (pc + 3) ls (.int 1 :: rest) u Q) : KV w l mm dd nc ns pc ls rest u Q := by
  intro p e R s m args below meth c H locs cells slots mc ms arr F S M L c1 c2
  obtain ⟨hx, hb, hr, hlo, hml, hown, hnme, hts, hfr, hlc, hmc, hms, hK, hKC, -⟩ := id F
  refine va_gets hx hb hKC.2.2.2.1 S hown (hts _ hlk) (fun _ h => h) d ?_
  exact kk p e R s m args below meth c H locs cells slots mc ms arr F S M L c1 c2
theorem kv_strL {i : Nat} (d : decode mm.2.1 pc = .ok (.arraylength, 1)) (hi : i < 18)
    (kk : KV w l mm dd nc ns (pc + 1) ls (.int (nI (kv_sl.getD i 0)) :: rest) u Q) : KV w l mm dd nc ns pc ls (.ref (10200 + i) :: rest) u Q := by
  intro p e R s m args below meth c H locs cells slots mc ms arr F S M L c1 c2
  obtain ⟨hx, hb, hr, hlo, hml, hown, hnme, hts, hfr, hlc, hmc, hms, hK, hKC, -⟩ := id F
  rw [List.map_cons, kv_adv]
  refine va_tlen hx hb (hKC.2.1.1 i hi).2.2.2 S (v := nI (kv_sl.getD i 0)) rfl d ?_
  exact kk p e R s m args below meth c H locs cells slots mc ms arr F S M L c1 c2
theorem kv_strB {i k : Nat} (d : decode mm.2.1 pc = .ok (.baload, 1)) (hi : i < 18) (hk : k < kv_sl.getD i 0) (hk2 : k < 100)
    (kk : KV w l mm dd nc ns (pc + 1) ls (.int ((kv_sb.getD i []).getD k 0) :: rest) u Q) : KV w l mm dd nc ns pc ls (.int (nI k) :: .ref (10200 + i) :: rest) u Q := by
  intro p e R s m args below meth c H locs cells slots mc ms arr F S M L c1 c2
  obtain ⟨hx, hb, hr, hlo, hml, hown, hnme, hts, hfr, hlc, hmc, hms, hK, hKC, -⟩ := id F
  rw [List.map_cons, List.map_cons, kv_adv]
  refine va_tb hx hb (hKC.2.1.1 i hi).2.2.2 S (vp_in_nI hk (by have := (kv_sl_a i hi).2; omega)) (v := .int ((kv_sb.getD i []).getD k 0)) (by rw [nI_clamp (by omega)]) d ?_
  exact kk p e R s m args below meth c H locs cells slots mc ms arr F S M L c1 c2
end KVStr
/-- checkIndex of Preconditions, whatever the third is -/
theorem kv_ck3 {w : KW} {l : Launch} {u : KMem} {a b : Int32} {t : Nat} (h0 : ¬ a < 0) (h1 : a < b) : Met l mJ3_checkIndex_8e157.1 (kv_cw mJ3_checkIndex_8e157 :: kv_tb) (kv_rm 0 0 0) (va_Pc [.int a, .int b, .ref t] (fun U => kv_K w U ∧ kv_H w u U.heap)) (kv_Qc w (kq (some (.int a)) u)) 0 0 (kv_A w) := by
  refine Met.ofW (cc := mJ3_checkIndex_8e157.2.1) (maxL := mJ3_checkIndex_8e157.2.2.1) (ret := mJ3_checkIndex_8e157.2.2.2) rfl rfl ?_
  intro p e s mi args below meth c s₁ B hml hv
  obtain ⟨rfl, hK, hH⟩ := hv
  have hts := atoms_spec (ws := kv_cw mJ3_checkIndex_8e157 :: kv_tb) B.pre
  have hown : s.vm.findClass mJ3_checkIndex_8e157.1.cls = some mi.cls := findClass_of_methodNamed B.named
  have hl := lv_entry [.int a, .int b, .ref t] (n := mJ3_checkIndex_8e157.2.2.1) (Nat.le_of_ble_eq_true rfl)
  have hk : KV w l mJ3_checkIndex_8e157 0 0 0 0 [some (.int a), some (.int b), none] [] u (kq (some (.int a)) u) := by
    refine kv_iload_n dJ3_checkIndex_8e157_0 rfl ?_
    refine kv_if_lt dJ3_checkIndex_8e157_1 9 (by decide) (fun h => absurd h h0) (fun _ => ?_)
    refine kv_iload_n dJ3_checkIndex_8e157_4 rfl ?_
    refine kv_iload_n dJ3_checkIndex_8e157_5 rfl ?_
    refine kv_icmp_lt dJ3_checkIndex_8e157_6 16 (by decide) (fun _ => ?_) (fun h => absurd h1 h)
    refine kv_iload_n dJ3_checkIndex_8e157_16 rfl ?_
    exact kv_iret dJ3_checkIndex_8e157_17 rfl ⟨rfl, rfl⟩
  rw [lg_entry_eq]
  refine hk p e _ s mi _ below meth c s.heap [] 0 0 0 0 _ ⟨B.exec, B.bytes, B.returns, B.notSynchronized, hml, hown, (name_of_methodNamed B.named B.method).1, fun x hx => hts x (List.mem_cons_of_mem _ hx), Nat.le_refl 0, Nat.le_refl (100 * 0), Nat.le_refl 0, Nat.le_refl 0, hK⟩ va_S.rf hH ⟨hl.1, hl.2.1, fun q hq => ?_⟩ (by omega) (by omega)
  refine hl.2.2 q ?_
  simp only [kv_ll, List.mem_cons, List.not_mem_nil, or_false] at hq
  simp only [lv_args, List.mem_cons, List.not_mem_nil, or_false]
  rcases hq with h | h
  · exact Or.inl h
  · exact Or.inr (Or.inl h)
theorem qJ3_checkIndex_8e157 {w : KW} {l : Launch} {u : KMem} {a b : Int32} (h0 : ¬ a < 0) (h1 : a < b) : KC w l mJ3_checkIndex_8e157 0 0 0 [.int a, .int b, .null] u (kq (some (.int a)) u) := by
  refine KC.of (ls := [_, _, _]) rfl rfl (Nat.le_of_ble_eq_true rfl) ?_
  refine kv_iload_n dJ3_checkIndex_8e157_0 rfl ?_
  refine kv_if_lt dJ3_checkIndex_8e157_1 9 (by decide) (fun h => absurd h h0) (fun _ => ?_)
  refine kv_iload_n dJ3_checkIndex_8e157_4 rfl ?_
  refine kv_iload_n dJ3_checkIndex_8e157_5 rfl ?_
  refine kv_icmp_lt dJ3_checkIndex_8e157_6 16 (by decide) (fun _ => ?_) (fun h => absurd h1 h)
  refine kv_iload_n dJ3_checkIndex_8e157_16 rfl ?_
  exact kv_iret dJ3_checkIndex_8e157_17 rfl ⟨rfl, rfl⟩
theorem qJ0_checkIndex_df160 {w : KW} {l : Launch} {u : KMem} {a b : Int32} (h0 : ¬ a < 0) (h1 : a < b) : KC w l mJ0_checkIndex_df160 1 0 0 [.int a, .int b] u (kq none u) := by
  refine KC.of (ls := [_, _]) rfl rfl (Nat.le_of_ble_eq_true rfl) ?_
  refine kv_iload_n dJ0_checkIndex_df160_0 rfl ?_
  refine kv_iload_n dJ0_checkIndex_df160_1 rfl ?_
  have hfin : KV w l mJ0_checkIndex_df160 1 0 0 8 [some (.int a), some (.int b)] [.int a] u (kq none u) := by
    refine kv_pop dJ0_checkIndex_df160_8 rfl ?_
    exact kv_vret dJ0_checkIndex_df160_9 rfl ⟨rfl, rfl⟩
  intro p e R s m args below meth c H locs cells slots mc ms arr F S M L c1 c2
  obtain ⟨hx, hb, hr, hlo, hml, hown, hnme, hts, hfr, hlc, hmc, hms, hK, hKC, -⟩ := id F
  rcases hKC.2.2.2.2.1 with hZ | ⟨t, hZ⟩
  · refine va_gets hx hb hZ S hown (hts _ sJ0_1053) (fun _ h => h) dJ0_checkIndex_df160_2 ?_
    exact kw_Si [.int a, .int b, .null] mJ3_checkIndex_8e157 dJ0_checkIndex_df160_5 lJ0_1059 wJ3_checkIndex_8e157 rfl rfl rfl (qJ3_checkIndex_8e157 h0 h1) (by decide) hfin p e R s m args below meth c H locs cells slots mc ms arr F S M L c1 c2
  · refine va_gets hx hb hZ S hown (hts _ sJ0_1053) (fun _ h => h) dJ0_checkIndex_df160_2 ?_
    have hcb := kv_cb (d2 := 0) (nc2 := 0) (ns2 := 0) F wJ3_checkIndex_8e157.1 lJ0_1059 (by decide)
    have hp : PreS s H (va_Pc [.int a, .int b, .ref t] (fun U => kv_K w U ∧ kv_H w u U.heap)) [.int a, .int b, .ref t] := by
      obtain ⟨hx, hb, hr, hlo, hml, hown, hnme, hts, hfr, hlc, hmc, hms, hK⟩ := F
      refine ⟨fun a U g mk q => ⟨q.1, q.2.1.blind g mk a, q.2.2⟩, fun U hU hW => ⟨rfl, ?_, by rw [hU]; exact M⟩⟩
      exact kv_K.to (locs := locs) hW (by rw [hU]; exact S) hK
    refine kv_aft (rest := []) (d2 := 0) F S L c1 c2 (Nat.le_refl 0) (Nat.le_refl 0) (va_runS (Ts := kv_tb) (As := [.int a, .int b, .ref t]) ⟨hx, hb, hml, hown, hts⟩ (kv_ck3 (w := w) (u := u) h0 h1) ⟨hcb, hts _ wJ3_checkIndex_8e157.2⟩ hp rfl rfl L.1 rfl ?_ dJ0_checkIndex_df160_5 ⟨by omega, by omega⟩) (fun r v q => ?_)
    · show 2 * 0 + _ ≤ 8
      exact Nat.zero_le 8
    · obtain ⟨rfl, rfl⟩ := q
      exact hfin
theorem qJ0_isLatin1_aae02 {w : KW} {l : Launch} {u : KMem} {i : Nat} (hi : i < 18) : KC w l mJ0_isLatin1_aae02 0 0 0 [.ref (10100 + i)] u (kq (some (.int 1)) u) := by
  refine KC.of (ls := [_]) rfl rfl (Nat.le_of_ble_eq_true rfl) ?_
  refine kv_strZ dJ0_isLatin1_aae02_0 sJ0_38 ?_
  refine kv_if_eq dJ0_isLatin1_aae02_3 17 (by decide) (fun h => absurd h (by decide)) (fun _ => ?_)
  refine kv_aload_n dJ0_isLatin1_aae02_6 rfl ?_
  refine kv_strC dJ0_isLatin1_aae02_7 sJ0_15 hi ?_
  refine kv_if_ne dJ0_isLatin1_aae02_10 17 (by decide) (fun h => absurd rfl h) (fun _ => ?_)
  refine kv_iconst dJ0_isLatin1_aae02_13 1 ki_1 ?_
  refine kv_goto dJ0_isLatin1_aae02_14 18 (by decide) ?_
  exact kv_zret dJ0_isLatin1_aae02_18 rfl kv_z1 ⟨rfl, rfl⟩
theorem qJ0_coder_7d493 {w : KW} {l : Launch} {u : KMem} {i : Nat} (hi : i < 18) : KC w l mJ0_coder_7d493 0 0 0 [.ref (10100 + i)] u (kq (some (.int 0)) u) := by
  refine KC.of (ls := [_]) rfl rfl (Nat.le_of_ble_eq_true rfl) ?_
  refine kv_strZ dJ0_coder_7d493_0 sJ0_38 ?_
  refine kv_if_eq dJ0_coder_7d493_3 13 (by decide) (fun h => absurd h (by decide)) (fun _ => ?_)
  refine kv_aload_n dJ0_coder_7d493_6 rfl ?_
  refine kv_strC dJ0_coder_7d493_7 sJ0_15 hi ?_
  refine kv_goto dJ0_coder_7d493_10 14 (by decide) ?_
  exact kv_zret dJ0_coder_7d493_14 rfl (by decide +kernel) ⟨rfl, rfl⟩
theorem qJ0_length_8abf5 {w : KW} {l : Launch} {u : KMem} {i : Nat} (hi : i < 18) : KC w l mJ0_length_8abf5 1 0 0 [.ref (10100 + i)] u (kq (some (.int (nI (kv_sl.getD i 0)))) u) := by
  refine KC.of (ls := [_]) rfl rfl (Nat.le_of_ble_eq_true rfl) ?_
  refine kv_aload_n dJ0_length_8abf5_0 rfl ?_
  refine kv_strV dJ0_length_8abf5_1 sJ0_9 hi ?_
  refine kv_strL dJ0_length_8abf5_4 hi ?_
  refine kv_aload_n dJ0_length_8abf5_5 rfl ?_
  refine kv_callV (m2 := mJ0_coder_7d493) [] dJ0_length_8abf5_6 lJ0_335 wJ0_coder_7d493 (qJ0_coder_7d493 hi) (Or.inr ⟨i, hi, rfl, rfl⟩) rfl rfl (by decide) (Nat.le_refl 0) (Nat.le_refl 0) (fun r v q => ?_)
  obtain ⟨rfl, rfl⟩ := q
  refine kv_ishr dJ0_length_8abf5_9 ?_
  rw [(kv_sl_a i hi).1]
  exact kv_iret dJ0_length_8abf5_10 rfl ⟨rfl, rfl⟩
theorem kv_sb_a : ∀ i, i < 18 → ∀ k, k < kv_sl.getD i 0 → (((kv_sb.getD i []).getD k 0 &&& 255).toUInt32 % 65536).toInt32 = (kv_sb.getD i []).getD k 0 ∧ narrow .char (.int ((kv_sb.getD i []).getD k 0)) = .int ((kv_sb.getD i []).getD k 0) := by decide +kernel
theorem qJ1_charAt_3b067 {w : KW} {l : Launch} {u : KMem} {i k : Nat} (hi : i < 18) (hk : k < kv_sl.getD i 0) : KC w l mJ1_charAt_3b067 2 0 0 [.ref (10200 + i), .int (nI k)] u (kq (some (.int ((kv_sb.getD i []).getD k 0))) u) := by
  have h100 := (kv_sl_a i hi).2
  refine KC.of (ls := [_, _]) rfl rfl (Nat.le_of_ble_eq_true rfl) ?_
  refine kv_iload_n dJ1_charAt_3b067_0 rfl ?_
  refine kv_aload_n dJ1_charAt_3b067_1 rfl ?_
  refine kv_strL dJ1_charAt_3b067_2 hi ?_
  refine kw_Sv [_, _] mJ0_checkIndex_df160 dJ1_charAt_3b067_3 lJ1_9 wJ0_checkIndex_df160 rfl rfl rfl (qJ0_checkIndex_df160 (nI_pos (by omega)) (nI_lt hk (by omega))) (by decide) ?_
  refine kv_aload_n dJ1_charAt_3b067_6 rfl ?_
  refine kv_iload_n dJ1_charAt_3b067_7 rfl ?_
  refine kv_strB dJ1_charAt_3b067_8 hi hk (by omega) ?_
  refine kv_sipush dJ1_charAt_3b067_9 255 kz_255 ?_
  refine kv_iand dJ1_charAt_3b067_12 ?_
  refine kv_i2c dJ1_charAt_3b067_13 ?_
  rw [(kv_sb_a i hi k hk).1]
  exact kv_zret dJ1_charAt_3b067_14 rfl (kv_sb_a i hi k hk).2 ⟨rfl, rfl⟩
theorem qJ0_charAt_5068e {w : KW} {l : Launch} {u : KMem} {i k : Nat} (hi : i < 18) (hk : k < kv_sl.getD i 0) : KC w l mJ0_charAt_5068e 3 0 0 [.ref (10100 + i), .int (nI k)] u (kq (some (.int ((kv_sb.getD i []).getD k 0))) u) := by
  refine KC.of (ls := [_, _]) rfl rfl (Nat.le_of_ble_eq_true rfl) ?_
  refine kv_aload_n dJ0_charAt_5068e_0 rfl ?_
  refine kv_callV (m2 := mJ0_isLatin1_aae02) [] dJ0_charAt_5068e_1 lJ0_492 wJ0_isLatin1_aae02 (qJ0_isLatin1_aae02 hi) (Or.inr ⟨i, hi, rfl, rfl⟩) rfl rfl (by decide) (Nat.le_refl 0) (Nat.le_refl 0) (fun r v q => ?_)
  obtain ⟨rfl, rfl⟩ := q
  refine kv_if_eq dJ0_charAt_5068e_4 16 (by decide) (fun h => absurd h (by decide)) (fun _ => ?_)
  refine kv_aload_n dJ0_charAt_5068e_7 rfl ?_
  refine kv_strV dJ0_charAt_5068e_8 sJ0_9 hi ?_
  refine kv_iload_n dJ0_charAt_5068e_11 rfl ?_
  refine kw_Si [_, _] mJ1_charAt_3b067 dJ0_charAt_5068e_12 lJ0_495 wJ1_charAt_3b067 rfl rfl rfl (qJ1_charAt_3b067 hi hk) (by decide) ?_
  exact kv_zret dJ0_charAt_5068e_15 rfl (kv_sb_a i hi k hk).2 ⟨rfl, rfl⟩
/-- a call of a text's length or charAt -/
theorem kw_Vs (as : List Value) {w : KW} {l : Launch} {mm : KM} {dd nc ns pc : Nat} {ls : List (Option Value)} {rest : List Value} {u : KMem} {Q : Option Value → KMem → Prop} {st : List Value} (m2 : KM) {d2 n i idx : Nat} {x : Option Value} (d : decode mm.2.1 pc = .ok (.invokevirtual idx, 3)) (hl : Cond.methodLink mm.1.cls idx m2.1 ∈ kv_tb) (hm : kv_MI m2 n) (hcl : m2.1.cls = "java/lang/String") (hi : i < 18) (hst : as.reverse ++ .ref (10100 + i) :: rest = st) (hn : as.length = n) (h8 : Nat.ble (kv_r8 rest) 8 = true) (hc : KC w l m2 d2 0 0 (.ref (10100 + i) :: as) u (kq x u)) (hd : d2 + 1 ≤ dd)
    (kk : KV w l mm dd nc ns (pc + 3) ls (x.toList ++ rest) u Q) : KV w l mm dd nc ns pc ls st u Q := by
  subst hst
  exact kv_callV as d hl hm hc (Or.inr ⟨i, hi, rfl, hcl⟩) hn h8 hd (Nat.zero_le _) (Nat.zero_le _) (fun r v2 hq => by obtain ⟨rfl, rfl⟩ := hq; exact kk)
