/-! image, restore: one store is copied into the other -/
theorem ks_car3 : ∀ i, i < 30 → kv_sh (193 + (12 + 2 * i)) = (0, 6) ∧ kv_sh (193 + (12 + 2 * i + 1)) = (20, 3) ∧ kv_rf (193 + (12 + 2 * i)) 5 = some (193 + (12 + 2 * i + 1)) ∧ kv_rf 194 i = some (193 + (12 + 2 * i)) := by decide +kernel
theorem ks_crash3 : ∀ i, i < 20 → kv_sh (193 + (72 + 3 * i)) = (1, 5) ∧ kv_sh (193 + (72 + 3 * i + 1)) = (20, 2) ∧ kv_sh (193 + (72 + 3 * i + 2)) = (20, 2) ∧ kv_rf (193 + (72 + 3 * i)) 0 = some (193 + (72 + 3 * i + 1)) ∧ kv_rf (193 + (72 + 3 * i)) 1 = some (193 + (72 + 3 * i + 2)) ∧ kv_rf 198 i = some (193 + (72 + 3 * i)) := by decide +kernel
theorem ks_treaty3 : ∀ i, i < 10 → kv_sh (193 + (132 + 2 * i)) = (9, 4) ∧ kv_sh (193 + (132 + 2 * i + 1)) = (20, 60) ∧ kv_rf (193 + (132 + 2 * i)) 0 = some (193 + (132 + 2 * i + 1)) ∧ kv_rf 199 i = some (193 + (132 + 2 * i)) := by decide +kernel
theorem ks_entry3 : ∀ i, i < 40 → kv_sh (193 + (152 + i)) = (2, 6) ∧ kv_rf 200 i = some (193 + (152 + i)) := by decide +kernel
/-- of the store at s, the places C hold what the store at t held -/
def kCp (s t : Nat) (u v : KMem) (C : Nat → Nat → Prop) : Prop := kWd v ∧ (∀ b k, ¬ (s ≤ b ∧ b < s + 192) → v.2.1 b k = u.2.1 b k) ∧ ∀ o k, o < 192 → C o k → v.2.1 (s + o) k = u.2.1 (t + o) k
theorem kCp.mono {s t : Nat} {u v : KMem} {C D : Nat → Nat → Prop} (h : kCp s t u v C) (hD : ∀ o k, D o k → C o k) : kCp s t u v D := ⟨h.1, h.2.1, fun o k ho q => h.2.2 o k ho (hD o k q)⟩
theorem kCp.upd {s t o1 o2 : Nat} {u v z : KMem} {C D S : Nat → Nat → Prop} (h : kCp s t u v C) (hst : s + 192 ≤ t ∨ t + 192 ≤ s) (hz : kWd z) (ho : o2 < 192) (V : ∀ b k, ¬ (s + o1 ≤ b ∧ b ≤ s + o2) → z.2.1 b k = v.2.1 b k) (W : ∀ o k, o1 ≤ o → o ≤ o2 → S o k → z.2.1 (s + o) k = v.2.1 (t + o) k) (hD : ∀ o k, D o k → (C o k ∧ ¬ (o1 ≤ o ∧ o ≤ o2)) ∨ (o1 ≤ o ∧ o ≤ o2 ∧ S o k)) : kCp s t u z D := by
  refine ⟨hz, fun b k q => (V b k (by omega)).trans (h.2.1 b k q), fun o k h1 q => ?_⟩
  rcases hD o k q with ⟨q1, q2⟩ | ⟨q1, q2, q3⟩
  · exact (V _ k (by omega)).trans (h.2.2 o k h1 q1)
  · exact (W o k q1 q2 q3).trans (h.2.1 _ k (by omega))
def kZc0 (o k : Nat) : Prop := o = 0 ∧ (k = 1 ∨ k = 5 ∨ k = 7 ∨ k = 9 ∨ k = 11 ∨ k = 15 ∨ k = 17 ∨ k = 18)
def kZc1 (n o k : Nat) : Prop := 12 ≤ o ∧ o < 12 + 2 * n ∧ o < 72 ∧ ((o % 2 = 0 ∧ k < 5) ∨ (o % 2 = 1 ∧ k < 3))
def kZc2 (n o k : Nat) : Prop := 72 ≤ o ∧ o < 72 + 3 * n ∧ o < 132 ∧ ((o % 3 = 0 ∧ 2 ≤ k ∧ k < 5) ∨ (¬ o % 3 = 0 ∧ k < 2))
def kZc3 (n o k : Nat) : Prop := 132 ≤ o ∧ o < 132 + 2 * n ∧ o < 152 ∧ ((o % 2 = 0 ∧ 1 ≤ k ∧ k < 4) ∨ (o % 2 = 1 ∧ k < 60))
def kZc4 (n o k : Nat) : Prop := 152 ≤ o ∧ o < 152 + n ∧ o < 192 ∧ k < 6
def kRn : List Nat := [0, 0, 16, 16, 16, 0, 0, 0, 24, 7, 60, 33]
def kZc5 (r o k : Nat) : Prop := 2 ≤ o ∧ o < r ∧ o < 12 ∧ k < kRn.getD o 0
theorem kZc5_8 {o k : Nat} (z : kZc5 9 o k) (hn : ¬ (8 ≤ o ∧ o ≤ 8)) : kZc5 5 o k := by
  obtain ⟨h1, h2, h3, h4⟩ := z
  refine ⟨h1, ?_, h3, h4⟩
  rcases (show o < 5 ∨ o = 5 ∨ o = 6 ∨ o = 7 by omega) with q | q | q | q
  · exact q
  · rw [q] at h4; exact absurd h4 (Nat.not_lt_zero k)
  · rw [q] at h4; exact absurd h4 (Nat.not_lt_zero k)
  · rw [q] at h4; exact absurd h4 (Nat.not_lt_zero k)
def kZc (nc nx nt ne r o k : Nat) : Prop := kZc0 o k ∨ kZc1 nc o k ∨ kZc2 nx o k ∨ kZc3 nt o k ∨ kZc4 ne o k ∨ kZc5 r o k
theorem kRS.cp {s t : Nat} {g : Nat → Int32} {u v : KMem} (h : kRS t g u) (hg : kGI g) (hc : kCp s t u v (kZc (kN g 0) (kN g 2) (kN g 3) (kN g 4) 12)) : kRS s g v := by
  have n0 := (hg.cnt (k := 0) rfl).2
  have n1 := (hg.cnt (k := 1) rfl).2
  have n2 := (hg.cnt (k := 2) rfl).2
  have n3 := (hg.cnt (k := 3) rfl).2
  have n4 := (hg.cnt (k := 4) rfl).2
  have n5 := (hg.cnt (k := 5) rfl).2
  have n6 := (hg.cnt (k := 6) rfl).2
  obtain ⟨⟨a1, a2, a3, a4, a5, a6, a7, a8⟩, b, c, d, e, f, t', n, p, q⟩ := h
  have H := fun o k h1 h2 => hc.2.2 o k h1 h2
  refine ⟨⟨(H 0 1 (by omega) (Or.inl (by unfold kZc0; omega))).trans a1, (H 0 5 (by omega) (Or.inl (by unfold kZc0; omega))).trans a2, (H 0 7 (by omega) (Or.inl (by unfold kZc0; omega))).trans a3, (H 0 9 (by omega) (Or.inl (by unfold kZc0; omega))).trans a4, (H 0 11 (by omega) (Or.inl (by unfold kZc0; omega))).trans a5, (H 0 15 (by omega) (Or.inl (by unfold kZc0; omega))).trans a6, (H 0 17 (by omega) (Or.inl (by unfold kZc0; omega))).trans a7, (H 0 18 (by omega) (Or.inl (by unfold kZc0; omega))).trans a8⟩, fun k hk => ?_, fun z hz r hr => ?_, fun i hi => ⟨fun j hj => ?_, fun j hj => ?_⟩, fun i hi => ⟨?_, ?_, ?_⟩, fun i hi => ⟨fun j hj => ?_, fun j hj => ?_, ?_, ?_, ?_⟩, fun i hi => ⟨?_, ?_, ?_, fun j hj => ?_⟩, fun i hi => ⟨fun j hj => ?_, ?_⟩, fun k hk => ?_, fun k hk => ?_⟩
  · exact (H 9 k (by omega) (Or.inr (Or.inr (Or.inr (Or.inr (Or.inr (show kZc5 12 9 _ from ⟨by omega, by omega, by omega, show _ < 7 by omega⟩))))))).trans (b k hk)
  · exact (H 8 _ (by omega) (Or.inr (Or.inr (Or.inr (Or.inr (Or.inr (show kZc5 12 8 _ from ⟨by omega, by omega, by omega, show _ < 24 by omega⟩))))))).trans (c z hz r hr)
  · exact (H _ j (by omega) (Or.inr (Or.inl (by unfold kZc1; omega)))).trans ((d i hi).1 j hj)
  · exact (H _ j (by omega) (Or.inr (Or.inl (by unfold kZc1; omega)))).trans ((d i hi).2 j hj)
  · exact (H 2 i (by omega) (Or.inr (Or.inr (Or.inr (Or.inr (Or.inr (show kZc5 12 2 _ from ⟨by omega, by omega, by omega, show _ < 16 by omega⟩))))))).trans (e i hi).1
  · exact (H 3 i (by omega) (Or.inr (Or.inr (Or.inr (Or.inr (Or.inr (show kZc5 12 3 _ from ⟨by omega, by omega, by omega, show _ < 16 by omega⟩))))))).trans (e i hi).2.1
  · exact (H 4 i (by omega) (Or.inr (Or.inr (Or.inr (Or.inr (Or.inr (show kZc5 12 4 _ from ⟨by omega, by omega, by omega, show _ < 16 by omega⟩))))))).trans (e i hi).2.2
  · exact (H _ j (by omega) (Or.inr (Or.inr (Or.inl (by unfold kZc2; omega))))).trans ((f i hi).1 j hj)
  · exact (H _ j (by omega) (Or.inr (Or.inr (Or.inl (by unfold kZc2; omega))))).trans ((f i hi).2.1 j hj)
  · exact (H _ 2 (by omega) (Or.inr (Or.inr (Or.inl (by unfold kZc2; omega))))).trans (f i hi).2.2.1
  · exact (H _ 3 (by omega) (Or.inr (Or.inr (Or.inl (by unfold kZc2; omega))))).trans (f i hi).2.2.2.1
  · exact (H _ 4 (by omega) (Or.inr (Or.inr (Or.inl (by unfold kZc2; omega))))).trans (f i hi).2.2.2.2
  · exact (H _ 1 (by omega) (Or.inr (Or.inr (Or.inr (Or.inl (by unfold kZc3; omega)))))).trans (t' i hi).1
  · exact (H _ 2 (by omega) (Or.inr (Or.inr (Or.inr (Or.inl (by unfold kZc3; omega)))))).trans (t' i hi).2.1
  · exact (H _ 3 (by omega) (Or.inr (Or.inr (Or.inr (Or.inl (by unfold kZc3; omega)))))).trans (t' i hi).2.2.1
  · have h60 := ((hg.2.2.2.2.2.2.1 i hi).2.2.1.n (by omega)).2
    have hj2 : j < (g (468 + 66 * i + 2)).toNatClampNeg := hj
    exact (H _ j (by omega) (Or.inr (Or.inr (Or.inr (Or.inl (by unfold kZc3; omega)))))).trans ((t' i hi).2.2.2 j hj)
  · exact (H _ j (by omega) (Or.inr (Or.inr (Or.inr (Or.inr (Or.inl (by unfold kZc4; omega))))))).trans ((n i hi).1 j hj)
  · exact (H _ 5 (by omega) (Or.inr (Or.inr (Or.inr (Or.inr (Or.inl (by unfold kZc4; omega))))))).trans (n i hi).2
  · exact (H 10 k (by omega) (Or.inr (Or.inr (Or.inr (Or.inr (Or.inr (show kZc5 12 10 _ from ⟨by omega, by omega, by omega, show _ < 60 by omega⟩))))))).trans (p k hk)
  · exact (H 11 k (by omega) (Or.inr (Or.inr (Or.inr (Or.inr (Or.inr (show kZc5 12 11 _ from ⟨by omega, by omega, by omega, show _ < 33 by omega⟩))))))).trans (q k hk)
theorem kv_cp_n {u : KMem} {a i b j n c k : Nat} (h : ¬ (c = b ∧ j ≤ k ∧ k < j + n)) : (kv_cp u a i b j n).2.1 c k = u.2.1 c k := by
  by_cases q : c = b
  · exact (if_pos q).trans (if_neg (fun z => h ⟨q, z⟩))
  · exact if_neg q
theorem kv_cp_s {u : KMem} {a b n k : Nat} (h : k < n) : (kv_cp u a 0 b 0 n).2.1 b k = u.2.1 a k := by
  refine (if_pos rfl).trans ((if_pos (by omega)).trans ?_)
  rw [show 0 + (k - 0) = k by omega]
/-- of numbers only those below 1421 count -/
theorem kGI.c {g g' : Nat → Int32} (hg : kGI g) (E : ∀ i, i < 1421 → g' i = g i) : kGI g' := by
  have n0 := (hg.cnt (k := 0) rfl).2
  have n1 := (hg.cnt (k := 1) rfl).2
  have n2 := (hg.cnt (k := 2) rfl).2
  have n3 := (hg.cnt (k := 3) rfl).2
  have n4 := (hg.cnt (k := 4) rfl).2
  have n5 := (hg.cnt (k := 5) rfl).2
  have N : ∀ j, j < 7 → kN g' j = kN g j := fun j hj => kc_N (E j (by omega))
  obtain ⟨h1, h2, h3, h4, h5, h6, h7, h8, h9⟩ := hg
  refine ⟨fun k n hk => ?_, fun k n hk => ?_, fun z hz t n ht => ?_, fun d hd => ?_, fun s hs => ?_, fun x hx => ?_, fun t ht => ?_, fun e he => ?_, fun k hk => ?_⟩
  · have hl : k < 7 := (List.getElem?_eq_some_iff.mp hk).1
    rw [E _ (by omega)]; exact h1 k n hk
  · have hl : k < 7 := (List.getElem?_eq_some_iff.mp hk).1
    rw [E _ (by omega)]; exact h2 k n hk
  · have hl : t < 3 := (List.getElem?_eq_some_iff.mp ht).1
    rw [E _ (by omega)]; exact h3 z hz t n ht
  · rw [N 0 (by omega)] at hd
    obtain ⟨c0, c1, c2, c3, c4, c5⟩ := h4 d hd
    exact ⟨by rw [E _ (by omega)]; exact c0, by rw [E _ (by omega)]; exact c1, by rw [E _ (by omega)]; exact c2, by rw [E _ (by omega)]; exact c3, by rw [E _ (by omega)]; exact c4, fun m hm => by rw [E _ (by omega)]; exact c5 m hm⟩
  · rw [N 1 (by omega)] at hs
    obtain ⟨s0, s1, s2⟩ := h5 s hs
    exact ⟨by rw [E _ (by omega)]; exact s0, by rw [E _ (by omega)]; exact s1, by rw [E _ (by omega)]; exact s2⟩
  · rw [N 2 (by omega)] at hx
    obtain ⟨x0, x1, x2, x3, x4⟩ := h6 x hx
    exact ⟨fun s hs => by rw [E _ (by omega), N 0 (by omega)]; exact x0 s hs, by rw [E _ (by omega)]; exact x1, by rw [E _ (by omega)]; exact x2, by rw [E _ (by omega)]; exact x3, fun s hs => by rw [E _ (by omega), N 1 (by omega)]; exact x4 s hs⟩
  · rw [N 3 (by omega)] at ht
    obtain ⟨t0, t1, t2, t3⟩ := h7 t ht
    have t4 := (t2.n (by omega)).2
    refine ⟨by rw [E _ (by omega)]; exact t0, by rw [E _ (by omega)]; exact t1, by rw [E _ (by omega)]; exact t2, ?_⟩
    rw [kc_N (E (468 + 66 * t + 2) (by omega)), kDep_c (f := fun k => g (468 + 66 * t + 3 + k)) (fun k hk => E _ (by unfold kN at hk; omega))]
    exact t3
  · rw [N 4 (by omega)] at he
    obtain ⟨e0, e1, e2, e3, e4⟩ := h8 e he
    exact ⟨by rw [E _ (by omega), N 2 (by omega)]; exact e0, by rw [E _ (by omega)]; exact e1, by rw [E _ (by omega)]; exact e2, by rw [E _ (by omega)]; exact e3, by rw [E _ (by omega)]; exact e4⟩
  · rw [N 5 (by omega)] at hk
    rw [E _ (by omega)]; exact h9 k hk
theorem kRS.c {s : Nat} {g g' : Nat → Int32} {u : KMem} (h : kRS s g u) (hg : kGI g) (E : ∀ i, i < 1421 → g' i = g i) : kRS s g' u := by
  have n0 := (hg.cnt (k := 0) rfl).2
  have n1 := (hg.cnt (k := 1) rfl).2
  have n2 := (hg.cnt (k := 2) rfl).2
  have n3 := (hg.cnt (k := 3) rfl).2
  have n4 := (hg.cnt (k := 4) rfl).2
  have n5 := (hg.cnt (k := 5) rfl).2
  have n6 := (hg.cnt (k := 6) rfl).2
  have N : ∀ j, j < 7 → kN g' j = kN g j := fun j hj => kc_N (E j (by omega))
  obtain ⟨⟨a1, a2, a3, a4, a5, a6, a7, a8⟩, b, c, d, e, f, t, n, p, q⟩ := h
  refine ⟨⟨by rw [E _ (by omega)]; exact a1, by rw [E _ (by omega)]; exact a2, by rw [E _ (by omega)]; exact a3, by rw [E _ (by omega)]; exact a4, by rw [E _ (by omega)]; exact a5, by rw [E _ (by omega)]; exact a6, by rw [E _ (by omega)]; exact a7, by rw [E _ (by omega)]; exact a8⟩, fun k hk => ?_, fun z hz r hr => ?_, fun i hi => ?_, fun i hi => ?_, fun i hi => ?_, fun i hi => ?_, fun i hi => ?_, fun k hk => ?_, fun k hk => ?_⟩
  · rw [E _ (by omega)]; exact b k hk
  · rw [E _ (by omega)]; exact c z hz r hr
  · rw [N 0 (by omega)] at hi
    exact ⟨fun j hj => by rw [E _ (by omega)]; exact (d i hi).1 j hj, fun j hj => by rw [E _ (by omega)]; exact (d i hi).2 j hj⟩
  · rw [N 1 (by omega)] at hi
    exact ⟨by rw [E _ (by omega)]; exact (e i hi).1, by rw [E _ (by omega), E _ (by omega)]; exact (e i hi).2.1, by rw [E _ (by omega)]; exact (e i hi).2.2⟩
  · rw [N 2 (by omega)] at hi
    have o0 := (hg.carOf hi (s := 0) (by omega)).2
    have o1 := (hg.carOf hi (s := 1) (by omega)).2
    exact ⟨fun j hj => by rw [E _ (by omega)]; exact (f i hi).1 j hj, fun j hj => by rw [E _ (by omega)]; exact (f i hi).2.1 j hj, by rw [E _ (by omega)]; exact (f i hi).2.2.1, by rw [E _ (by omega)]; exact (f i hi).2.2.2.1, by rw [kc_fr2 (g := g) (fun j hj => E _ (by omega)) (fun s hs => E _ (by have := (hg.carOf hi hs).2; omega))]; exact (f i hi).2.2.2.2⟩
  · rw [N 3 (by omega)] at hi
    have t4 := ((hg.2.2.2.2.2.2.1 i hi).2.2.1.n (by omega)).2
    exact ⟨by rw [E _ (by omega)]; exact (t i hi).1, by rw [E _ (by omega)]; exact (t i hi).2.1, by rw [E _ (by omega)]; exact (t i hi).2.2.1, fun j hj => by rw [kc_N (E (468 + 66 * i + 2) (by omega))] at hj; have hj2 : j < (g (468 + 66 * i + 2)).toNatClampNeg := hj; rw [E _ (by omega)]; exact (t i hi).2.2.2 j hj⟩
  · rw [N 4 (by omega)] at hi
    exact ⟨fun j hj => by rw [E _ (by omega)]; exact (n i hi).1 j hj, by rw [kc_fst (g := g) (fun j hj f hf => E _ (by omega))]; exact (n i hi).2⟩
  · rw [N 5 (by omega)] at hk
    rw [E _ (by omega)]; exact p k hk
  · rw [N 6 (by omega)] at hk
    rw [E _ (by omega)]; exact q k hk
set_option maxRecDepth 20000 in
set_option maxHeartbeats 4000000 in
theorem qX0_copyFrom_I {w : KW} {l : Launch} {v : KMem} (hv : kWd v) (c : Nat) (hi : c < 30) : KC w l mX0_copyFrom 1 0 0 [.ref (193 + (12 + 2 * c)), .ref (1 + (12 + 2 * c))] v (fun r z => r = none ∧ kWd z ∧ (∀ k, (k = 0 ∨ k = 1 ∨ k = 2 ∨ k = 3 ∨ k = 4) → z.2.1 (193 + (12 + 2 * c)) k = v.2.1 (1 + (12 + 2 * c)) k) ∧ (∀ k, k < 3 → z.2.1 (193 + (12 + 2 * c + 1)) k = v.2.1 (1 + (12 + 2 * c + 1)) k) ∧ (∀ b k, ¬ (193 + (12 + 2 * c) ≤ b ∧ b ≤ 193 + (12 + 2 * c + 1)) → z.2.1 b k = v.2.1 b k)) := by
  refine KC.of (ls := [_, _]) rfl rfl (Nat.le_of_ble_eq_true rfl) ?_
  have kd := ks_car3 c (by omega)
  have kd1 := kd.1
  have kd2 := kd.2.1
  have kd3 := kd.2.2.1
  have kd4 := kd.2.2.2
  have kt := ks_car c (by omega)
  have kt1 := kt.1
  have kt2 := kt.2.1
  have kt3 := kt.2.2.1
  have kt4 := kt.2.2.2
  refine kv_aload_n dX0_copyFrom_0 rfl ?_
  refine kv_aload_n dX0_copyFrom_1 rfl ?_
  refine kw_gI dX0_copyFrom_2 fX0_15 hv (by first | rfl | assumption) rfl rfl ?_
  refine kw_pI dX0_copyFrom_5 fX0_15 hv (by first | rfl | assumption) rfl rfl ?_
  refine kv_aload_n dX0_copyFrom_8 rfl ?_
  refine kv_aload_n dX0_copyFrom_9 rfl ?_
  refine kw_gI dX0_copyFrom_10 fX0_19 hv (by first | rfl | assumption) rfl rfl ?_
  refine kw_pI dX0_copyFrom_13 fX0_19 hv (by first | rfl | assumption) rfl rfl ?_
  refine kv_aload_n dX0_copyFrom_16 rfl ?_
  refine kv_aload_n dX0_copyFrom_17 rfl ?_
  refine kw_gI dX0_copyFrom_18 fX0_22 hv (by first | rfl | assumption) rfl rfl ?_
  refine kw_pI dX0_copyFrom_21 fX0_22 hv (by first | rfl | assumption) rfl rfl ?_
  refine kv_aload_n dX0_copyFrom_24 rfl ?_
  refine kv_aload_n dX0_copyFrom_25 rfl ?_
  refine kw_gI dX0_copyFrom_26 fX0_25 hv (by first | rfl | assumption) rfl rfl ?_
  refine kw_pI dX0_copyFrom_29 fX0_25 hv (by first | rfl | assumption) rfl rfl ?_
  refine kv_aload_n dX0_copyFrom_32 rfl ?_
  refine kv_aload_n dX0_copyFrom_33 rfl ?_
  refine kw_gI dX0_copyFrom_34 fX0_28 hv (by first | rfl | assumption) rfl rfl ?_
  refine kw_pI dX0_copyFrom_37 fX0_28 hv (by first | rfl | assumption) rfl rfl ?_
  refine kv_aload_n dX0_copyFrom_40 rfl ?_
  refine kw_gR dX0_copyFrom_41 fX0_9 hv (by first | rfl | assumption) rfl rfl (by first | rfl | assumption) ?_
  refine kv_iconst dX0_copyFrom_44 0 ki_0 ?_
  refine kv_aload_n dX0_copyFrom_45 rfl ?_
  refine kw_gR dX0_copyFrom_46 fX0_9 hv (by first | rfl | assumption) rfl rfl (by first | rfl | assumption) ?_
  refine kv_iconst dX0_copyFrom_49 0 ki_0 ?_
  refine kv_iconst dX0_copyFrom_50 3 ki_3 ?_
  refine kw_copy (i := 0) (j := 0) (n := 3) dX0_copyFrom_51 lX0_37 hv (by first | rfl | assumption) (by first | rfl | assumption) rfl rfl rfl (by omega) (by omega) rfl rfl rfl rfl rfl (by omega) ?_
  exact kv_vret dX0_copyFrom_54 rfl ⟨rfl, hv, fun k hk => by rcases hk with rfl | rfl | rfl | rfl | rfl <;> (repeat (first | rw [kv_si_n (by omega)] | rw [kv_cp_n (by omega)] | rw [kv_si_s] | rw [kv_cp_s (by omega)])), fun k hk => by (repeat (first | rw [kv_si_n (by omega)] | rw [kv_cp_n (by omega)] | rw [kv_si_s] | rw [kv_cp_s (by omega)])), fun b k hb => by (repeat (first | rw [kv_si_n (by omega)] | rw [kv_cp_n (by omega)] | rw [kv_si_s] | rw [kv_cp_s (by omega)]))⟩

set_option maxRecDepth 20000 in
set_option maxHeartbeats 4000000 in
theorem qX1_copyFrom_I {w : KW} {l : Launch} {v : KMem} (hv : kWd v) (c : Nat) (hi : c < 20) : KC w l mX1_copyFrom 1 0 0 [.ref (193 + (72 + 3 * c)), .ref (1 + (72 + 3 * c))] v (fun r z => r = none ∧ kWd z ∧ (∀ k, (k = 2 ∨ k = 3 ∨ k = 4) → z.2.1 (193 + (72 + 3 * c)) k = v.2.1 (1 + (72 + 3 * c)) k) ∧ (∀ k, k < 2 → z.2.1 (193 + (72 + 3 * c + 1)) k = v.2.1 (1 + (72 + 3 * c + 1)) k) ∧ (∀ k, k < 2 → z.2.1 (193 + (72 + 3 * c + 2)) k = v.2.1 (1 + (72 + 3 * c + 2)) k) ∧ (∀ b k, ¬ (193 + (72 + 3 * c) ≤ b ∧ b ≤ 193 + (72 + 3 * c + 2)) → z.2.1 b k = v.2.1 b k)) := by
  refine KC.of (ls := [_, _]) rfl rfl (Nat.le_of_ble_eq_true rfl) ?_
  have kd := ks_crash3 c (by omega)
  have kd1 := kd.1
  have kd2 := kd.2.1
  have kd3 := kd.2.2.1
  have kd4 := kd.2.2.2.1
  have kd5 := kd.2.2.2.2.1
  have kd6 := kd.2.2.2.2.2
  have kt := ks_crash c (by omega)
  have kt1 := kt.1
  have kt2 := kt.2.1
  have kt3 := kt.2.2.1
  have kt4 := kt.2.2.2.1
  have kt5 := kt.2.2.2.2.1
  have kt6 := kt.2.2.2.2.2
  refine kv_aload_n dX1_copyFrom_0 rfl ?_
  refine kw_gR dX1_copyFrom_1 fX1_9 hv (by first | rfl | assumption) rfl rfl (by first | rfl | assumption) ?_
  refine kv_iconst dX1_copyFrom_4 0 ki_0 ?_
  refine kv_aload_n dX1_copyFrom_5 rfl ?_
  refine kw_gR dX1_copyFrom_6 fX1_9 hv (by first | rfl | assumption) rfl rfl (by first | rfl | assumption) ?_
  refine kv_iconst dX1_copyFrom_9 0 ki_0 ?_
  refine kv_iconst dX1_copyFrom_10 2 ki_2 ?_
  refine kw_copy (i := 0) (j := 0) (n := 2) dX1_copyFrom_11 lX1_34 hv (by first | rfl | assumption) (by first | rfl | assumption) rfl rfl rfl (by omega) (by omega) rfl rfl rfl rfl rfl (by omega) ?_
  refine kv_aload_n dX1_copyFrom_14 rfl ?_
  refine kw_gR dX1_copyFrom_15 fX1_15 hv (by first | rfl | assumption) rfl rfl (by first | rfl | assumption) ?_
  refine kv_iconst dX1_copyFrom_18 0 ki_0 ?_
  refine kv_aload_n dX1_copyFrom_19 rfl ?_
  refine kw_gR dX1_copyFrom_20 fX1_15 hv (by first | rfl | assumption) rfl rfl (by first | rfl | assumption) ?_
  refine kv_iconst dX1_copyFrom_23 0 ki_0 ?_
  refine kv_iconst dX1_copyFrom_24 2 ki_2 ?_
  refine kw_copy (i := 0) (j := 0) (n := 2) dX1_copyFrom_25 lX1_34 hv (by first | rfl | assumption) (by first | rfl | assumption) rfl rfl rfl (by omega) (by omega) rfl rfl rfl rfl rfl (by omega) ?_
  refine kv_aload_n dX1_copyFrom_28 rfl ?_
  refine kv_aload_n dX1_copyFrom_29 rfl ?_
  refine kw_gI dX1_copyFrom_30 fX1_24 hv (by first | rfl | assumption) rfl rfl ?_
  refine kw_pI dX1_copyFrom_33 fX1_24 hv (by first | rfl | assumption) rfl rfl ?_
  refine kv_aload_n dX1_copyFrom_36 rfl ?_
  refine kv_aload_n dX1_copyFrom_37 rfl ?_
  refine kw_gI dX1_copyFrom_38 fX1_28 hv (by first | rfl | assumption) rfl rfl ?_
  refine kw_pI dX1_copyFrom_41 fX1_28 hv (by first | rfl | assumption) rfl rfl ?_
  refine kv_aload_n dX1_copyFrom_44 rfl ?_
  refine kv_aload_n dX1_copyFrom_45 rfl ?_
  refine kw_gI dX1_copyFrom_46 fX1_31 hv (by first | rfl | assumption) rfl rfl ?_
  refine kw_pI dX1_copyFrom_49 fX1_31 hv (by first | rfl | assumption) rfl rfl ?_
  exact kv_vret dX1_copyFrom_52 rfl ⟨rfl, hv, fun k hk => by rcases hk with rfl | rfl | rfl <;> (repeat (first | rw [kv_si_n (by omega)] | rw [kv_cp_n (by omega)] | rw [kv_si_s] | rw [kv_cp_s (by omega)])), fun k hk => by (repeat (first | rw [kv_si_n (by omega)] | rw [kv_cp_n (by omega)] | rw [kv_si_s] | rw [kv_cp_s (by omega)])), fun k hk => by (repeat (first | rw [kv_si_n (by omega)] | rw [kv_cp_n (by omega)] | rw [kv_si_s] | rw [kv_cp_s (by omega)])), fun b k hb => by (repeat (first | rw [kv_si_n (by omega)] | rw [kv_cp_n (by omega)] | rw [kv_si_s] | rw [kv_cp_s (by omega)]))⟩

set_option maxRecDepth 20000 in
set_option maxHeartbeats 4000000 in
theorem qX9_copyFrom_I {w : KW} {l : Launch} {v : KMem} (hv : kWd v) (c : Nat) (hi : c < 10) : KC w l mX9_copyFrom 1 0 0 [.ref (193 + (132 + 2 * c)), .ref (1 + (132 + 2 * c))] v (fun r z => r = none ∧ kWd z ∧ (∀ k, (k = 1 ∨ k = 2 ∨ k = 3) → z.2.1 (193 + (132 + 2 * c)) k = v.2.1 (1 + (132 + 2 * c)) k) ∧ (∀ k, k < 60 → z.2.1 (193 + (132 + 2 * c + 1)) k = v.2.1 (1 + (132 + 2 * c + 1)) k) ∧ (∀ b k, ¬ (193 + (132 + 2 * c) ≤ b ∧ b ≤ 193 + (132 + 2 * c + 1)) → z.2.1 b k = v.2.1 b k)) := by
  refine KC.of (ls := [_, _]) rfl rfl (Nat.le_of_ble_eq_true rfl) ?_
  have kd := ks_treaty3 c (by omega)
  have kd1 := kd.1
  have kd2 := kd.2.1
  have kd3 := kd.2.2.1
  have kd4 := kd.2.2.2
  have kt := ks_treaty c (by omega)
  have kt1 := kt.1
  have kt2 := kt.2.1
  have kt3 := kt.2.2.1
  have kt4 := kt.2.2.2
  refine kv_aload_n dX9_copyFrom_0 rfl ?_
  refine kw_gR dX9_copyFrom_1 fX9_9 hv (by first | rfl | assumption) rfl rfl (by first | rfl | assumption) ?_
  refine kv_iconst dX9_copyFrom_4 0 ki_0 ?_
  refine kv_aload_n dX9_copyFrom_5 rfl ?_
  refine kw_gR dX9_copyFrom_6 fX9_9 hv (by first | rfl | assumption) rfl rfl (by first | rfl | assumption) ?_
  refine kv_iconst dX9_copyFrom_9 0 ki_0 ?_
  refine kv_bipush dX9_copyFrom_10 60 kb_60 ?_
  refine kw_copy (i := 0) (j := 0) (n := 60) dX9_copyFrom_12 lX9_25 hv (by first | rfl | assumption) (by first | rfl | assumption) rfl rfl rfl (by omega) (by omega) rfl rfl rfl rfl rfl (by omega) ?_
  refine kv_aload_n dX9_copyFrom_15 rfl ?_
  refine kv_aload_n dX9_copyFrom_16 rfl ?_
  refine kw_gI dX9_copyFrom_17 fX9_22 hv (by first | rfl | assumption) rfl rfl ?_
  refine kw_pI dX9_copyFrom_20 fX9_22 hv (by first | rfl | assumption) rfl rfl ?_
  refine kv_aload_n dX9_copyFrom_23 rfl ?_
  refine kv_aload_n dX9_copyFrom_24 rfl ?_
  refine kw_gI dX9_copyFrom_25 fX9_15 hv (by first | rfl | assumption) rfl rfl ?_
  refine kw_pI dX9_copyFrom_28 fX9_15 hv (by first | rfl | assumption) rfl rfl ?_
  refine kv_aload_n dX9_copyFrom_31 rfl ?_
  refine kv_aload_n dX9_copyFrom_32 rfl ?_
  refine kw_gI dX9_copyFrom_33 fX9_19 hv (by first | rfl | assumption) rfl rfl ?_
  refine kw_pI dX9_copyFrom_36 fX9_19 hv (by first | rfl | assumption) rfl rfl ?_
  exact kv_vret dX9_copyFrom_39 rfl ⟨rfl, hv, fun k hk => by rcases hk with rfl | rfl | rfl <;> (repeat (first | rw [kv_si_n (by omega)] | rw [kv_cp_n (by omega)] | rw [kv_si_s] | rw [kv_cp_s (by omega)])), fun k hk => by (repeat (first | rw [kv_si_n (by omega)] | rw [kv_cp_n (by omega)] | rw [kv_si_s] | rw [kv_cp_s (by omega)])), fun b k hb => by (repeat (first | rw [kv_si_n (by omega)] | rw [kv_cp_n (by omega)] | rw [kv_si_s] | rw [kv_cp_s (by omega)]))⟩

set_option maxRecDepth 20000 in
set_option maxHeartbeats 4000000 in
theorem qX2_copyFrom_I {w : KW} {l : Launch} {v : KMem} (hv : kWd v) (c : Nat) (hi : c < 40) : KC w l mX2_copyFrom 1 0 0 [.ref (193 + (152 + c)), .ref (1 + (152 + c))] v (fun r z => r = none ∧ kWd z ∧ (∀ k, (k = 0 ∨ k = 1 ∨ k = 2 ∨ k = 3 ∨ k = 4 ∨ k = 5) → z.2.1 (193 + (152 + c)) k = v.2.1 (1 + (152 + c)) k) ∧ (∀ b k, ¬ (193 + (152 + c) ≤ b ∧ b ≤ 193 + (152 + c)) → z.2.1 b k = v.2.1 b k)) := by
  refine KC.of (ls := [_, _]) rfl rfl (Nat.le_of_ble_eq_true rfl) ?_
  have kd := ks_entry3 c (by omega)
  have kd1 := kd.1
  have kd2 := kd.2
  have kt := ks_entry c (by omega)
  have kt1 := kt.1
  have kt2 := kt.2
  refine kv_aload_n dX2_copyFrom_0 rfl ?_
  refine kv_aload_n dX2_copyFrom_1 rfl ?_
  refine kw_gI dX2_copyFrom_2 fX2_7 hv (by first | rfl | assumption) rfl rfl ?_
  refine kw_pI dX2_copyFrom_5 fX2_7 hv (by first | rfl | assumption) rfl rfl ?_
  refine kv_aload_n dX2_copyFrom_8 rfl ?_
  refine kv_aload_n dX2_copyFrom_9 rfl ?_
  refine kw_gI dX2_copyFrom_10 fX2_13 hv (by first | rfl | assumption) rfl rfl ?_
  refine kw_pI dX2_copyFrom_13 fX2_13 hv (by first | rfl | assumption) rfl rfl ?_
  refine kv_aload_n dX2_copyFrom_16 rfl ?_
  refine kv_aload_n dX2_copyFrom_17 rfl ?_
  refine kw_gI dX2_copyFrom_18 fX2_16 hv (by first | rfl | assumption) rfl rfl ?_
  refine kw_pI dX2_copyFrom_21 fX2_16 hv (by first | rfl | assumption) rfl rfl ?_
  refine kv_aload_n dX2_copyFrom_24 rfl ?_
  refine kv_aload_n dX2_copyFrom_25 rfl ?_
  refine kw_gI dX2_copyFrom_26 fX2_19 hv (by first | rfl | assumption) rfl rfl ?_
  refine kw_pI dX2_copyFrom_29 fX2_19 hv (by first | rfl | assumption) rfl rfl ?_
  refine kv_aload_n dX2_copyFrom_32 rfl ?_
  refine kv_aload_n dX2_copyFrom_33 rfl ?_
  refine kw_gI dX2_copyFrom_34 fX2_22 hv (by first | rfl | assumption) rfl rfl ?_
  refine kw_pI dX2_copyFrom_37 fX2_22 hv (by first | rfl | assumption) rfl rfl ?_
  refine kv_aload_n dX2_copyFrom_40 rfl ?_
  refine kv_aload_n dX2_copyFrom_41 rfl ?_
  refine kw_gI dX2_copyFrom_42 fX2_25 hv (by first | rfl | assumption) rfl rfl ?_
  refine kw_pI dX2_copyFrom_45 fX2_25 hv (by first | rfl | assumption) rfl rfl ?_
  exact kv_vret dX2_copyFrom_48 rfl ⟨rfl, hv, fun k hk => by rcases hk with rfl | rfl | rfl | rfl | rfl | rfl <;> (repeat (first | rw [kv_si_n (by omega)] | rw [kv_cp_n (by omega)] | rw [kv_si_s] | rw [kv_cp_s (by omega)])), fun b k hb => by (repeat (first | rw [kv_si_n (by omega)] | rw [kv_cp_n (by omega)] | rw [kv_si_s] | rw [kv_cp_s (by omega)]))⟩

set_option maxRecDepth 20000 in
set_option maxHeartbeats 4000000 in
theorem qX7_copyCounts_I {w : KW} {l : Launch} {v : KMem} (hv : kWd v) : KC w l mX7_copyCounts 0 0 0 [.ref 193, .ref 1] v (fun r z => r = none ∧ kWd z ∧ (∀ k, (k = 1 ∨ k = 5 ∨ k = 7 ∨ k = 9 ∨ k = 11 ∨ k = 15 ∨ k = 17 ∨ k = 18) → z.2.1 193 k = v.2.1 1 k) ∧ ∀ b k, ¬ b = 193 → z.2.1 b k = v.2.1 b k) := by
  refine KC.of (ls := [_, _]) rfl rfl (Nat.le_of_ble_eq_true rfl) ?_
  refine kv_aload_n dX7_copyCounts_0 rfl ?_
  refine kv_aload_n dX7_copyCounts_1 rfl ?_
  refine kw_gI dX7_copyCounts_2 fX7_77 hv (by first | rfl | assumption) rfl rfl ?_
  refine kw_pI dX7_copyCounts_5 fX7_77 hv (by first | rfl | assumption) rfl rfl ?_
  refine kv_aload_n dX7_copyCounts_8 rfl ?_
  refine kv_aload_n dX7_copyCounts_9 rfl ?_
  refine kw_gI dX7_copyCounts_10 fX7_108 hv (by first | rfl | assumption) rfl rfl ?_
  refine kw_pI dX7_copyCounts_13 fX7_108 hv (by first | rfl | assumption) rfl rfl ?_
  refine kv_aload_n dX7_copyCounts_16 rfl ?_
  refine kv_aload_n dX7_copyCounts_17 rfl ?_
  refine kw_gI dX7_copyCounts_18 fX7_84 hv (by first | rfl | assumption) rfl rfl ?_
  refine kw_pI dX7_copyCounts_21 fX7_84 hv (by first | rfl | assumption) rfl rfl ?_
  refine kv_aload_n dX7_copyCounts_24 rfl ?_
  refine kv_aload_n dX7_copyCounts_25 rfl ?_
  refine kw_gI dX7_copyCounts_26 fX7_90 hv (by first | rfl | assumption) rfl rfl ?_
  refine kw_pI dX7_copyCounts_29 fX7_90 hv (by first | rfl | assumption) rfl rfl ?_
  refine kv_aload_n dX7_copyCounts_32 rfl ?_
  refine kv_aload_n dX7_copyCounts_33 rfl ?_
  refine kw_gI dX7_copyCounts_34 fX7_96 hv (by first | rfl | assumption) rfl rfl ?_
  refine kw_pI dX7_copyCounts_37 fX7_96 hv (by first | rfl | assumption) rfl rfl ?_
  refine kv_aload_n dX7_copyCounts_40 rfl ?_
  refine kv_aload_n dX7_copyCounts_41 rfl ?_
  refine kw_gI dX7_copyCounts_42 fX7_111 hv (by first | rfl | assumption) rfl rfl ?_
  refine kw_pI dX7_copyCounts_45 fX7_111 hv (by first | rfl | assumption) rfl rfl ?_
  refine kv_aload_n dX7_copyCounts_48 rfl ?_
  refine kv_aload_n dX7_copyCounts_49 rfl ?_
  refine kw_gI dX7_copyCounts_50 fX7_114 hv (by first | rfl | assumption) rfl rfl ?_
  refine kw_pI dX7_copyCounts_53 fX7_114 hv (by first | rfl | assumption) rfl rfl ?_
  refine kv_aload_n dX7_copyCounts_56 rfl ?_
  refine kv_aload_n dX7_copyCounts_57 rfl ?_
  refine kw_gI dX7_copyCounts_58 fX7_65 hv (by first | rfl | assumption) rfl rfl ?_
  refine kw_pI dX7_copyCounts_61 fX7_65 hv (by first | rfl | assumption) rfl rfl ?_
  exact kv_vret dX7_copyCounts_64 rfl ⟨rfl, hv, fun k hk => by rcases hk with rfl | rfl | rfl | rfl | rfl | rfl | rfl | rfl <;> (repeat (first | rw [kv_si_n (by omega)] | rw [kv_cp_n (by omega)] | rw [kv_si_s] | rw [kv_cp_s (by omega)])), fun b k hb => by (repeat (first | rw [kv_si_n (by omega)] | rw [kv_cp_n (by omega)] | rw [kv_si_s] | rw [kv_cp_s (by omega)]))⟩

set_option maxRecDepth 20000 in
set_option maxHeartbeats 4000000 in
theorem qX7_copyFrom_I {w : KW} {l : Launch} {u : KMem} (hu : kWd u) {g : Nat → Int32} (hr : kRS 1 g u) (hg : kGI g) : KC w l mX7_copyFrom 2 0 0 [.ref 193, .ref 1] u (fun r z => r = none ∧ kCp 193 1 u z (kZc (kN g 0) (kN g 2) (kN g 3) (kN g 4) 12)) := by
  have hc0 : kCp 193 1 u u (fun _ _ => False) := ⟨hu, fun b k _ => rfl, fun o k _ q => q.elim⟩
  have hw0 := hg.cnt (k := 0) rfl
  have hcn0 : u.2.1 1 1 = g 0 := hr.1.1
  have hw1 := hg.cnt (k := 2) rfl
  have hcn1 : u.2.1 1 7 = g 2 := hr.1.2.2.1
  have hw2 := hg.cnt (k := 3) rfl
  have hcn2 : u.2.1 1 9 = g 3 := hr.1.2.2.2.1
  have hw3 := hg.cnt (k := 4) rfl
  have hcn3 : u.2.1 1 11 = g 4 := hr.1.2.2.2.2.1
  refine KC.of (ls := [_, _, _]) rfl rfl (Nat.le_of_ble_eq_true rfl) ?_
  refine kv_aload_n dX7_copyFrom_0 rfl ?_
  refine kv_aload_n dX7_copyFrom_1 rfl ?_
  refine kw_VQ [_] mX7_copyCounts dX7_copyFrom_2 lX7_73 wX7_copyCounts kC7 hu rfl (by first | rfl | assumption) rfl rfl rfl (qX7_copyCounts_I hu) (by decide) (fun _ v1 q1 => ?_)
  obtain ⟨rfl, w1, c1, f1⟩ := q1
  have hcc : kCp 193 1 u v1 (kZc 0 0 0 0 0) := by
    refine kCp.upd (o1 := 0) (o2 := 0) (S := fun _ k => k = 1 ∨ k = 5 ∨ k = 7 ∨ k = 9 ∨ k = 11 ∨ k = 15 ∨ k = 17 ∨ k = 18) hc0 (by omega) w1 (by omega) (fun b k q => f1 b k (by omega)) (fun o k h1 h2 hk => ?_) ?_
    · obtain rfl : o = 0 := by omega
      exact c1 k hk
    · rintro o k (z | z | z | z | z | z)
      · exact Or.inr ⟨by omega, by unfold kZc0 at z; omega, z.2⟩
      · exact absurd z (by unfold kZc1; omega)
      · exact absurd z (by unfold kZc2; omega)
      · exact absurd z (by unfold kZc3; omega)
      · exact absurd z (by unfold kZc4; omega)
      · exact absurd z (by unfold kZc5; omega)
  refine kv_iconst dX7_copyFrom_5 0 ki_0 ?_
  refine kv_istore_n (ls2 := [_, _, _]) dX7_copyFrom_6 rfl rfl rfl rfl ?_
  refine KV.loc (ls2 := [some (.ref 193), some (.ref 1), some (.int (nI (0)))]) ?_ (ksS rfl (ksS rfl (ksS rfl ksN)))
  refine kn_loop (P := fun i => ∀ v : KMem, kCp 193 1 u v (kZc (i) (0) (0) (0) 0) → KV w l mX7_copyFrom 2 0 0 7 [some (.ref 193), some (.ref 1), some (.int (nI i))] [] v (fun r z => r = none ∧ kCp 193 1 u z (kZc (kN g 0) (kN g 2) (kN g 3) (kN g 4) 12))) (kN g 0) ?_ (fun i hi ih => ?_) _ hcc
  · intro v hc
    have hv := hc.1
    have hn : v.2.1 193 1 = nI (kN g 0) := (hc.2.2 0 1 (by omega) (Or.inl (by unfold kZc0; omega))).trans (hcn0.trans hw0.1)
    refine kv_iload_n dX7_copyFrom_7 rfl ?_
    refine kv_aload_n dX7_copyFrom_8 rfl ?_
    refine kw_gI dX7_copyFrom_9 fX7_77 hv (by first | rfl | assumption) rfl rfl ?_
    rw [hn]
    refine kv_icmp_ge dX7_copyFrom_12 36 (by decide) (fun h1 => ?_) (fun h1 => ?_)
    · refine kv_iconst dX7_copyFrom_36 0 ki_0 ?_
      refine kv_istore_n (ls2 := [_, _, _]) dX7_copyFrom_37 rfl rfl rfl rfl ?_
      refine KV.loc (ls2 := [some (.ref 193), some (.ref 1), some (.int (nI (0)))]) ?_ (ksS rfl (ksS rfl (ksS rfl ksN)))
      refine kn_loop (P := fun i => ∀ v : KMem, kCp 193 1 u v (kZc (kN g 0) (i) (0) (0) 0) → KV w l mX7_copyFrom 2 0 0 38 [some (.ref 193), some (.ref 1), some (.int (nI i))] [] v (fun r z => r = none ∧ kCp 193 1 u z (kZc (kN g 0) (kN g 2) (kN g 3) (kN g 4) 12))) (kN g 2) ?_ (fun i hi ih => ?_) _ hc
      · intro v hc
        have hv := hc.1
        have hn : v.2.1 193 7 = nI (kN g 2) := (hc.2.2 0 7 (by omega) (Or.inl (by unfold kZc0; omega))).trans (hcn1.trans hw1.1)
        refine kv_iload_n dX7_copyFrom_38 rfl ?_
        refine kv_aload_n dX7_copyFrom_39 rfl ?_
        refine kw_gI dX7_copyFrom_40 fX7_84 hv (by first | rfl | assumption) rfl rfl ?_
        rw [hn]
        refine kv_icmp_ge dX7_copyFrom_43 67 (by decide) (fun h2 => ?_) (fun h2 => ?_)
        · refine kv_iconst dX7_copyFrom_67 0 ki_0 ?_
          refine kv_istore_n (ls2 := [_, _, _]) dX7_copyFrom_68 rfl rfl rfl rfl ?_
          refine KV.loc (ls2 := [some (.ref 193), some (.ref 1), some (.int (nI (0)))]) ?_ (ksS rfl (ksS rfl (ksS rfl ksN)))
          refine kn_loop (P := fun i => ∀ v : KMem, kCp 193 1 u v (kZc (kN g 0) (kN g 2) (i) (0) 0) → KV w l mX7_copyFrom 2 0 0 69 [some (.ref 193), some (.ref 1), some (.int (nI i))] [] v (fun r z => r = none ∧ kCp 193 1 u z (kZc (kN g 0) (kN g 2) (kN g 3) (kN g 4) 12))) (kN g 3) ?_ (fun i hi ih => ?_) _ hc
          · intro v hc
            have hv := hc.1
            have hn : v.2.1 193 9 = nI (kN g 3) := (hc.2.2 0 9 (by omega) (Or.inl (by unfold kZc0; omega))).trans (hcn2.trans hw2.1)
            refine kv_iload_n dX7_copyFrom_69 rfl ?_
            refine kv_aload_n dX7_copyFrom_70 rfl ?_
            refine kw_gI dX7_copyFrom_71 fX7_90 hv (by first | rfl | assumption) rfl rfl ?_
            rw [hn]
            refine kv_icmp_ge dX7_copyFrom_74 98 (by decide) (fun h3 => ?_) (fun h3 => ?_)
            · refine kv_iconst dX7_copyFrom_98 0 ki_0 ?_
              refine kv_istore_n (ls2 := [_, _, _]) dX7_copyFrom_99 rfl rfl rfl rfl ?_
              refine KV.loc (ls2 := [some (.ref 193), some (.ref 1), some (.int (nI (0)))]) ?_ (ksS rfl (ksS rfl (ksS rfl ksN)))
              refine kn_loop (P := fun i => ∀ v : KMem, kCp 193 1 u v (kZc (kN g 0) (kN g 2) (kN g 3) (i) 0) → KV w l mX7_copyFrom 2 0 0 100 [some (.ref 193), some (.ref 1), some (.int (nI i))] [] v (fun r z => r = none ∧ kCp 193 1 u z (kZc (kN g 0) (kN g 2) (kN g 3) (kN g 4) 12))) (kN g 4) ?_ (fun i hi ih => ?_) _ hc
              · intro v hc
                have hv := hc.1
                have hn : v.2.1 193 11 = nI (kN g 4) := (hc.2.2 0 11 (by omega) (Or.inl (by unfold kZc0; omega))).trans (hcn3.trans hw3.1)
                refine kv_iload_n dX7_copyFrom_100 rfl ?_
                refine kv_aload_n dX7_copyFrom_101 rfl ?_
                refine kw_gI dX7_copyFrom_102 fX7_96 hv (by first | rfl | assumption) rfl rfl ?_
                rw [hn]
                refine kv_icmp_ge dX7_copyFrom_105 129 (by decide) (fun h4 => ?_) (fun h4 => ?_)
                · refine kv_aload_n dX7_copyFrom_129 rfl ?_
                  refine kw_gR dX7_copyFrom_130 fX7_17 hv (by first | rfl | assumption) rfl rfl (by first | rfl | assumption) ?_
                  refine kv_iconst dX7_copyFrom_133 0 ki_0 ?_
                  refine kv_aload_n dX7_copyFrom_134 rfl ?_
                  refine kw_gR dX7_copyFrom_135 fX7_17 hv (by first | rfl | assumption) rfl rfl (by first | rfl | assumption) ?_
                  refine kv_iconst dX7_copyFrom_138 0 ki_0 ?_
                  refine kv_bipush dX7_copyFrom_139 16 kb_16 ?_
                  refine kw_copy (i := 0) (j := 0) (n := 16) dX7_copyFrom_141 lX7_102 hv (by first | rfl | assumption) (by first | rfl | assumption) rfl rfl rfl (by omega) (by omega) rfl rfl rfl rfl rfl (by omega) ?_
                  have hr0 : kCp 193 1 u (kv_cp v 3 0 195 0 16) (kZc (kN g 0) (kN g 2) (kN g 3) (kN g 4) 3) := by
                    refine kCp.upd (o1 := 2) (o2 := 2) (S := fun o k => k < 16) hc (by omega) hv (by omega) (fun b k q => kv_cp_n (by omega)) (fun o k h1 h2 hk => ?_) ?_
                    · obtain rfl : o = 2 := by omega
                      exact kv_cp_s hk
                    · rintro o k (z | z | z | z | z | z)
                      · exact Or.inl ⟨(Or.inl z), by unfold kZc0 at z; omega⟩
                      · exact Or.inl ⟨(Or.inr (Or.inl z)), by unfold kZc1 at z; omega⟩
                      · exact Or.inl ⟨(Or.inr (Or.inr (Or.inl z))), by unfold kZc2 at z; omega⟩
                      · exact Or.inl ⟨(Or.inr (Or.inr (Or.inr (Or.inl z)))), by unfold kZc3 at z; omega⟩
                      · exact Or.inl ⟨(Or.inr (Or.inr (Or.inr (Or.inr (Or.inl z))))), by unfold kZc4 at z; omega⟩
                      · by_cases y : 2 ≤ o ∧ o ≤ 2
                        · exact Or.inr ⟨y.1, y.2, by have h4 := z.2.2.2; rw [show o = 2 by omega] at h4; exact h4⟩
                        · exact Or.inl ⟨(Or.inr (Or.inr (Or.inr (Or.inr (Or.inr (show kZc5 _ o k from ⟨z.1, by have h0 := z.1; have h1 := z.2.1; omega, z.2.2.1, z.2.2.2⟩)))))), y⟩
                  refine kv_aload_n dX7_copyFrom_144 rfl ?_
                  refine kw_gR dX7_copyFrom_145 fX7_21 hv (by first | rfl | assumption) rfl rfl (by first | rfl | assumption) ?_
                  refine kv_iconst dX7_copyFrom_148 0 ki_0 ?_
                  refine kv_aload_n dX7_copyFrom_149 rfl ?_
                  refine kw_gR dX7_copyFrom_150 fX7_21 hv (by first | rfl | assumption) rfl rfl (by first | rfl | assumption) ?_
                  refine kv_iconst dX7_copyFrom_153 0 ki_0 ?_
                  refine kv_bipush dX7_copyFrom_154 16 kb_16 ?_
                  refine kw_copy (i := 0) (j := 0) (n := 16) dX7_copyFrom_156 lX7_102 hv (by first | rfl | assumption) (by first | rfl | assumption) rfl rfl rfl (by omega) (by omega) rfl rfl rfl rfl rfl (by omega) ?_
                  have hr1 : kCp 193 1 u (kv_cp (kv_cp v 3 0 195 0 16) 4 0 196 0 16) (kZc (kN g 0) (kN g 2) (kN g 3) (kN g 4) 4) := by
                    refine kCp.upd (o1 := 3) (o2 := 3) (S := fun o k => k < 16) hr0 (by omega) hv (by omega) (fun b k q => kv_cp_n (by omega)) (fun o k h1 h2 hk => ?_) ?_
                    · obtain rfl : o = 3 := by omega
                      exact kv_cp_s hk
                    · rintro o k (z | z | z | z | z | z)
                      · exact Or.inl ⟨(Or.inl z), by unfold kZc0 at z; omega⟩
                      · exact Or.inl ⟨(Or.inr (Or.inl z)), by unfold kZc1 at z; omega⟩
                      · exact Or.inl ⟨(Or.inr (Or.inr (Or.inl z))), by unfold kZc2 at z; omega⟩
                      · exact Or.inl ⟨(Or.inr (Or.inr (Or.inr (Or.inl z)))), by unfold kZc3 at z; omega⟩
                      · exact Or.inl ⟨(Or.inr (Or.inr (Or.inr (Or.inr (Or.inl z))))), by unfold kZc4 at z; omega⟩
                      · by_cases y : 3 ≤ o ∧ o ≤ 3
                        · exact Or.inr ⟨y.1, y.2, by have h4 := z.2.2.2; rw [show o = 3 by omega] at h4; exact h4⟩
                        · exact Or.inl ⟨(Or.inr (Or.inr (Or.inr (Or.inr (Or.inr (show kZc5 _ o k from ⟨z.1, by have h0 := z.1; have h1 := z.2.1; omega, z.2.2.1, z.2.2.2⟩)))))), y⟩
                  refine kv_aload_n dX7_copyFrom_159 rfl ?_
                  refine kw_gR dX7_copyFrom_160 fX7_24 hv (by first | rfl | assumption) rfl rfl (by first | rfl | assumption) ?_
                  refine kv_iconst dX7_copyFrom_163 0 ki_0 ?_
                  refine kv_aload_n dX7_copyFrom_164 rfl ?_
                  refine kw_gR dX7_copyFrom_165 fX7_24 hv (by first | rfl | assumption) rfl rfl (by first | rfl | assumption) ?_
                  refine kv_iconst dX7_copyFrom_168 0 ki_0 ?_
                  refine kv_bipush dX7_copyFrom_169 16 kb_16 ?_
                  refine kw_copy (i := 0) (j := 0) (n := 16) dX7_copyFrom_171 lX7_102 hv (by first | rfl | assumption) (by first | rfl | assumption) rfl rfl rfl (by omega) (by omega) rfl rfl rfl rfl rfl (by omega) ?_
                  have hr2 : kCp 193 1 u (kv_cp (kv_cp (kv_cp v 3 0 195 0 16) 4 0 196 0 16) 5 0 197 0 16) (kZc (kN g 0) (kN g 2) (kN g 3) (kN g 4) 5) := by
                    refine kCp.upd (o1 := 4) (o2 := 4) (S := fun o k => k < 16) hr1 (by omega) hv (by omega) (fun b k q => kv_cp_n (by omega)) (fun o k h1 h2 hk => ?_) ?_
                    · obtain rfl : o = 4 := by omega
                      exact kv_cp_s hk
                    · rintro o k (z | z | z | z | z | z)
                      · exact Or.inl ⟨(Or.inl z), by unfold kZc0 at z; omega⟩
                      · exact Or.inl ⟨(Or.inr (Or.inl z)), by unfold kZc1 at z; omega⟩
                      · exact Or.inl ⟨(Or.inr (Or.inr (Or.inl z))), by unfold kZc2 at z; omega⟩
                      · exact Or.inl ⟨(Or.inr (Or.inr (Or.inr (Or.inl z)))), by unfold kZc3 at z; omega⟩
                      · exact Or.inl ⟨(Or.inr (Or.inr (Or.inr (Or.inr (Or.inl z))))), by unfold kZc4 at z; omega⟩
                      · by_cases y : 4 ≤ o ∧ o ≤ 4
                        · exact Or.inr ⟨y.1, y.2, by have h4 := z.2.2.2; rw [show o = 4 by omega] at h4; exact h4⟩
                        · exact Or.inl ⟨(Or.inr (Or.inr (Or.inr (Or.inr (Or.inr (show kZc5 _ o k from ⟨z.1, by have h0 := z.1; have h1 := z.2.1; omega, z.2.2.1, z.2.2.2⟩)))))), y⟩
                  refine kv_aload_n dX7_copyFrom_174 rfl ?_
                  refine kw_gR dX7_copyFrom_175 fX7_45 hv (by first | rfl | assumption) rfl rfl (by first | rfl | assumption) ?_
                  refine kv_iconst dX7_copyFrom_178 0 ki_0 ?_
                  refine kv_aload_n dX7_copyFrom_179 rfl ?_
                  refine kw_gR dX7_copyFrom_180 fX7_45 hv (by first | rfl | assumption) rfl rfl (by first | rfl | assumption) ?_
                  refine kv_iconst dX7_copyFrom_183 0 ki_0 ?_
                  refine kv_bipush dX7_copyFrom_184 24 kb_24 ?_
                  refine kw_copy (i := 0) (j := 0) (n := 24) dX7_copyFrom_186 lX7_102 hv (by first | rfl | assumption) (by first | rfl | assumption) rfl rfl rfl (by omega) (by omega) rfl rfl rfl rfl rfl (by omega) ?_
                  have hr3 : kCp 193 1 u (kv_cp (kv_cp (kv_cp (kv_cp v 3 0 195 0 16) 4 0 196 0 16) 5 0 197 0 16) 9 0 201 0 24) (kZc (kN g 0) (kN g 2) (kN g 3) (kN g 4) 9) := by
                    refine kCp.upd (o1 := 8) (o2 := 8) (S := fun o k => k < 24) hr2 (by omega) hv (by omega) (fun b k q => kv_cp_n (by omega)) (fun o k h1 h2 hk => ?_) ?_
                    · obtain rfl : o = 8 := by omega
                      exact kv_cp_s hk
                    · rintro o k (z | z | z | z | z | z)
                      · exact Or.inl ⟨(Or.inl z), by unfold kZc0 at z; omega⟩
                      · exact Or.inl ⟨(Or.inr (Or.inl z)), by unfold kZc1 at z; omega⟩
                      · exact Or.inl ⟨(Or.inr (Or.inr (Or.inl z))), by unfold kZc2 at z; omega⟩
                      · exact Or.inl ⟨(Or.inr (Or.inr (Or.inr (Or.inl z)))), by unfold kZc3 at z; omega⟩
                      · exact Or.inl ⟨(Or.inr (Or.inr (Or.inr (Or.inr (Or.inl z))))), by unfold kZc4 at z; omega⟩
                      · by_cases y : 8 ≤ o ∧ o ≤ 8
                        · exact Or.inr ⟨y.1, y.2, by have h4 := z.2.2.2; rw [show o = 8 by omega] at h4; exact h4⟩
                        · exact Or.inl ⟨(Or.inr (Or.inr (Or.inr (Or.inr (Or.inr (kZc5_8 z y)))))), y⟩
                  refine kv_aload_n dX7_copyFrom_189 rfl ?_
                  refine kw_gR dX7_copyFrom_190 fX7_56 hv (by first | rfl | assumption) rfl rfl (by first | rfl | assumption) ?_
                  refine kv_iconst dX7_copyFrom_193 0 ki_0 ?_
                  refine kv_aload_n dX7_copyFrom_194 rfl ?_
                  refine kw_gR dX7_copyFrom_195 fX7_56 hv (by first | rfl | assumption) rfl rfl (by first | rfl | assumption) ?_
                  refine kv_iconst dX7_copyFrom_198 0 ki_0 ?_
                  refine kv_bipush dX7_copyFrom_199 7 kb_7 ?_
                  refine kw_copy (i := 0) (j := 0) (n := 7) dX7_copyFrom_201 lX7_102 hv (by first | rfl | assumption) (by first | rfl | assumption) rfl rfl rfl (by omega) (by omega) rfl rfl rfl rfl rfl (by omega) ?_
                  have hr4 : kCp 193 1 u (kv_cp (kv_cp (kv_cp (kv_cp (kv_cp v 3 0 195 0 16) 4 0 196 0 16) 5 0 197 0 16) 9 0 201 0 24) 10 0 202 0 7) (kZc (kN g 0) (kN g 2) (kN g 3) (kN g 4) 10) := by
                    refine kCp.upd (o1 := 9) (o2 := 9) (S := fun o k => k < 7) hr3 (by omega) hv (by omega) (fun b k q => kv_cp_n (by omega)) (fun o k h1 h2 hk => ?_) ?_
                    · obtain rfl : o = 9 := by omega
                      exact kv_cp_s hk
                    · rintro o k (z | z | z | z | z | z)
                      · exact Or.inl ⟨(Or.inl z), by unfold kZc0 at z; omega⟩
                      · exact Or.inl ⟨(Or.inr (Or.inl z)), by unfold kZc1 at z; omega⟩
                      · exact Or.inl ⟨(Or.inr (Or.inr (Or.inl z))), by unfold kZc2 at z; omega⟩
                      · exact Or.inl ⟨(Or.inr (Or.inr (Or.inr (Or.inl z)))), by unfold kZc3 at z; omega⟩
                      · exact Or.inl ⟨(Or.inr (Or.inr (Or.inr (Or.inr (Or.inl z))))), by unfold kZc4 at z; omega⟩
                      · by_cases y : 9 ≤ o ∧ o ≤ 9
                        · exact Or.inr ⟨y.1, y.2, by have h4 := z.2.2.2; rw [show o = 9 by omega] at h4; exact h4⟩
                        · exact Or.inl ⟨(Or.inr (Or.inr (Or.inr (Or.inr (Or.inr (show kZc5 _ o k from ⟨z.1, by have h0 := z.1; have h1 := z.2.1; omega, z.2.2.1, z.2.2.2⟩)))))), y⟩
                  refine kv_aload_n dX7_copyFrom_204 rfl ?_
                  refine kw_gR dX7_copyFrom_205 fX7_59 hv (by first | rfl | assumption) rfl rfl (by first | rfl | assumption) ?_
                  refine kv_iconst dX7_copyFrom_208 0 ki_0 ?_
                  refine kv_aload_n dX7_copyFrom_209 rfl ?_
                  refine kw_gR dX7_copyFrom_210 fX7_59 hv (by first | rfl | assumption) rfl rfl (by first | rfl | assumption) ?_
                  refine kv_iconst dX7_copyFrom_213 0 ki_0 ?_
                  refine kv_bipush dX7_copyFrom_214 60 kb_60 ?_
                  refine kw_copy (i := 0) (j := 0) (n := 60) dX7_copyFrom_216 lX7_102 hv (by first | rfl | assumption) (by first | rfl | assumption) rfl rfl rfl (by omega) (by omega) rfl rfl rfl rfl rfl (by omega) ?_
                  have hr5 : kCp 193 1 u (kv_cp (kv_cp (kv_cp (kv_cp (kv_cp (kv_cp v 3 0 195 0 16) 4 0 196 0 16) 5 0 197 0 16) 9 0 201 0 24) 10 0 202 0 7) 11 0 203 0 60) (kZc (kN g 0) (kN g 2) (kN g 3) (kN g 4) 11) := by
                    refine kCp.upd (o1 := 10) (o2 := 10) (S := fun o k => k < 60) hr4 (by omega) hv (by omega) (fun b k q => kv_cp_n (by omega)) (fun o k h1 h2 hk => ?_) ?_
                    · obtain rfl : o = 10 := by omega
                      exact kv_cp_s hk
                    · rintro o k (z | z | z | z | z | z)
                      · exact Or.inl ⟨(Or.inl z), by unfold kZc0 at z; omega⟩
                      · exact Or.inl ⟨(Or.inr (Or.inl z)), by unfold kZc1 at z; omega⟩
                      · exact Or.inl ⟨(Or.inr (Or.inr (Or.inl z))), by unfold kZc2 at z; omega⟩
                      · exact Or.inl ⟨(Or.inr (Or.inr (Or.inr (Or.inl z)))), by unfold kZc3 at z; omega⟩
                      · exact Or.inl ⟨(Or.inr (Or.inr (Or.inr (Or.inr (Or.inl z))))), by unfold kZc4 at z; omega⟩
                      · by_cases y : 10 ≤ o ∧ o ≤ 10
                        · exact Or.inr ⟨y.1, y.2, by have h4 := z.2.2.2; rw [show o = 10 by omega] at h4; exact h4⟩
                        · exact Or.inl ⟨(Or.inr (Or.inr (Or.inr (Or.inr (Or.inr (show kZc5 _ o k from ⟨z.1, by have h0 := z.1; have h1 := z.2.1; omega, z.2.2.1, z.2.2.2⟩)))))), y⟩
                  refine kv_aload_n dX7_copyFrom_219 rfl ?_
                  refine kw_gR dX7_copyFrom_220 fX7_62 hv (by first | rfl | assumption) rfl rfl (by first | rfl | assumption) ?_
                  refine kv_iconst dX7_copyFrom_223 0 ki_0 ?_
                  refine kv_aload_n dX7_copyFrom_224 rfl ?_
                  refine kw_gR dX7_copyFrom_225 fX7_62 hv (by first | rfl | assumption) rfl rfl (by first | rfl | assumption) ?_
                  refine kv_iconst dX7_copyFrom_228 0 ki_0 ?_
                  refine kv_bipush dX7_copyFrom_229 33 kb_33 ?_
                  refine kw_copy (i := 0) (j := 0) (n := 33) dX7_copyFrom_231 lX7_102 hv (by first | rfl | assumption) (by first | rfl | assumption) rfl rfl rfl (by omega) (by omega) rfl rfl rfl rfl rfl (by omega) ?_
                  have hr6 : kCp 193 1 u (kv_cp (kv_cp (kv_cp (kv_cp (kv_cp (kv_cp (kv_cp v 3 0 195 0 16) 4 0 196 0 16) 5 0 197 0 16) 9 0 201 0 24) 10 0 202 0 7) 11 0 203 0 60) 12 0 204 0 33) (kZc (kN g 0) (kN g 2) (kN g 3) (kN g 4) 12) := by
                    refine kCp.upd (o1 := 11) (o2 := 11) (S := fun o k => k < 33) hr5 (by omega) hv (by omega) (fun b k q => kv_cp_n (by omega)) (fun o k h1 h2 hk => ?_) ?_
                    · obtain rfl : o = 11 := by omega
                      exact kv_cp_s hk
                    · rintro o k (z | z | z | z | z | z)
                      · exact Or.inl ⟨(Or.inl z), by unfold kZc0 at z; omega⟩
                      · exact Or.inl ⟨(Or.inr (Or.inl z)), by unfold kZc1 at z; omega⟩
                      · exact Or.inl ⟨(Or.inr (Or.inr (Or.inl z))), by unfold kZc2 at z; omega⟩
                      · exact Or.inl ⟨(Or.inr (Or.inr (Or.inr (Or.inl z)))), by unfold kZc3 at z; omega⟩
                      · exact Or.inl ⟨(Or.inr (Or.inr (Or.inr (Or.inr (Or.inl z))))), by unfold kZc4 at z; omega⟩
                      · by_cases y : 11 ≤ o ∧ o ≤ 11
                        · exact Or.inr ⟨y.1, y.2, by have h4 := z.2.2.2; rw [show o = 11 by omega] at h4; exact h4⟩
                        · exact Or.inl ⟨(Or.inr (Or.inr (Or.inr (Or.inr (Or.inr (show kZc5 _ o k from ⟨z.1, by have h0 := z.1; have h1 := z.2.1; omega, z.2.2.1, z.2.2.2⟩)))))), y⟩
                  exact kv_vret dX7_copyFrom_234 rfl ⟨rfl, hr6⟩
                · exact absurd h4 (fun q => q (Int32.le_refl _))
              · intro v hc
                have hv := hc.1
                have hn : v.2.1 193 11 = nI (kN g 4) := (hc.2.2 0 11 (by omega) (Or.inl (by unfold kZc0; omega))).trans (hcn3.trans hw3.1)
                have kd := ks_entry3 i (by omega)
                have kd1 := kd.1
                have kd2 := kd.2
                have kt := ks_entry i (by omega)
                have kt1 := kt.1
                have kt2 := kt.2
                refine kv_iload_n dX7_copyFrom_100 rfl ?_
                refine kv_aload_n dX7_copyFrom_101 rfl ?_
                refine kw_gI dX7_copyFrom_102 fX7_96 hv (by first | rfl | assumption) rfl rfl ?_
                rw [hn]
                refine kv_icmp_ge dX7_copyFrom_105 129 (by decide) (fun h5 => ?_) (fun h5 => ?_)
                · exact absurd h5 (kn_ge hi (by omega))
                · refine kv_aload_n dX7_copyFrom_108 rfl ?_
                  refine kw_gR dX7_copyFrom_109 fX7_41 hv (by first | rfl | assumption) rfl rfl (by first | rfl | assumption) ?_
                  refine kv_iload_n dX7_copyFrom_112 rfl ?_
                  refine kw_al (t := 3) (n := 40) dX7_copyFrom_113 hv rfl rfl (i) rfl (by omega) rfl (by first | rfl | assumption) ?_
                  refine kv_aload_n dX7_copyFrom_114 rfl ?_
                  refine kw_gR dX7_copyFrom_115 fX7_41 hv (by first | rfl | assumption) rfl rfl (by first | rfl | assumption) ?_
                  refine kv_iload_n dX7_copyFrom_118 rfl ?_
                  refine kw_al (t := 3) (n := 40) dX7_copyFrom_119 hv rfl rfl (i) rfl (by omega) rfl (by first | rfl | assumption) ?_
                  refine kw_VQ [_] mX2_copyFrom dX7_copyFrom_120 lX7_99 wX2_copyFrom kC2 hv rfl (by first | rfl | assumption) rfl rfl rfl (qX2_copyFrom_I hv i (by omega)) (by decide) (fun _ v5 q5 => ?_)
                  obtain ⟨rfl, w5, z0, f5⟩ := q5
                  have hc5 : kCp 193 1 u v5 (kZc (kN g 0) (kN g 2) (kN g 3) (i + 1) 0) := by
                    refine kCp.upd (o1 := 152 + i) (o2 := 152 + i) (S := fun o k => (o = 152 + i ∧ (k = 0 ∨ k = 1 ∨ k = 2 ∨ k = 3 ∨ k = 4 ∨ k = 5))) hc (by omega) w5 (by omega) (fun b k q => f5 b k q) (fun o k h1 h2 hk => ?_) ?_
                    · rcases hk with ⟨rfl, hk⟩
                      · exact z0 k hk
                    · rintro o k (z | z | z | z | z | z)
                      · exact Or.inl ⟨(Or.inl z), by unfold kZc0 at z; omega⟩
                      · exact Or.inl ⟨(Or.inr (Or.inl z)), by unfold kZc1 at z; omega⟩
                      · exact Or.inl ⟨(Or.inr (Or.inr (Or.inl z))), by unfold kZc2 at z; omega⟩
                      · exact Or.inl ⟨(Or.inr (Or.inr (Or.inr (Or.inl z)))), by unfold kZc3 at z; omega⟩
                      · by_cases y : 152 + i ≤ o ∧ o ≤ 152 + i
                        · exact Or.inr ⟨y.1, y.2, by unfold kZc4 at z; omega⟩
                        · exact Or.inl ⟨(Or.inr (Or.inr (Or.inr (Or.inr (Or.inl (by unfold kZc4 at *; omega)))))), y⟩
                      · exact Or.inl ⟨(Or.inr (Or.inr (Or.inr (Or.inr (Or.inr z))))), by unfold kZc5 at z; omega⟩
                  refine kv_iinc (ls2 := [_, _, _]) dX7_copyFrom_123 (nI (i + 1)) rfl (kv_inc1 i) rfl rfl rfl rfl ?_
                  refine kv_goto dX7_copyFrom_126 100 (by decide) ?_
                  exact KV.loc (ih _ hc5) (ksS rfl (ksS rfl (ksS rfl ksN)))
            · exact absurd h3 (fun q => q (Int32.le_refl _))
          · intro v hc
            have hv := hc.1
            have hn : v.2.1 193 9 = nI (kN g 3) := (hc.2.2 0 9 (by omega) (Or.inl (by unfold kZc0; omega))).trans (hcn2.trans hw2.1)
            have kd := ks_treaty3 i (by omega)
            have kd1 := kd.1
            have kd2 := kd.2.1
            have kd3 := kd.2.2.1
            have kd4 := kd.2.2.2
            have kt := ks_treaty i (by omega)
            have kt1 := kt.1
            have kt2 := kt.2.1
            have kt3 := kt.2.2.1
            have kt4 := kt.2.2.2
            refine kv_iload_n dX7_copyFrom_69 rfl ?_
            refine kv_aload_n dX7_copyFrom_70 rfl ?_
            refine kw_gI dX7_copyFrom_71 fX7_90 hv (by first | rfl | assumption) rfl rfl ?_
            rw [hn]
            refine kv_icmp_ge dX7_copyFrom_74 98 (by decide) (fun h6 => ?_) (fun h6 => ?_)
            · exact absurd h6 (kn_ge hi (by omega))
            · refine kv_aload_n dX7_copyFrom_77 rfl ?_
              refine kw_gR dX7_copyFrom_78 fX7_35 hv (by first | rfl | assumption) rfl rfl (by first | rfl | assumption) ?_
              refine kv_iload_n dX7_copyFrom_81 rfl ?_
              refine kw_al (t := 2) (n := 10) dX7_copyFrom_82 hv rfl rfl (i) rfl (by omega) rfl (by first | rfl | assumption) ?_
              refine kv_aload_n dX7_copyFrom_83 rfl ?_
              refine kw_gR dX7_copyFrom_84 fX7_35 hv (by first | rfl | assumption) rfl rfl (by first | rfl | assumption) ?_
              refine kv_iload_n dX7_copyFrom_87 rfl ?_
              refine kw_al (t := 2) (n := 10) dX7_copyFrom_88 hv rfl rfl (i) rfl (by omega) rfl (by first | rfl | assumption) ?_
              refine kw_VQ [_] mX9_copyFrom dX7_copyFrom_89 lX7_93 wX9_copyFrom kC9 hv rfl (by first | rfl | assumption) rfl rfl rfl (qX9_copyFrom_I hv i (by omega)) (by decide) (fun _ v4 q4 => ?_)
              obtain ⟨rfl, w4, z0, z1, f4⟩ := q4
              have hc4 : kCp 193 1 u v4 (kZc (kN g 0) (kN g 2) (i + 1) (0) 0) := by
                refine kCp.upd (o1 := 132 + 2 * i) (o2 := 132 + 2 * i + 1) (S := fun o k => (o = 132 + 2 * i ∧ (k = 1 ∨ k = 2 ∨ k = 3)) ∨ (o = 132 + 2 * i + 1 ∧ (k < 60))) hc (by omega) w4 (by omega) (fun b k q => f4 b k q) (fun o k h1 h2 hk => ?_) ?_
                · rcases hk with ⟨rfl, hk⟩ | ⟨rfl, hk⟩
                  · exact z0 k hk
                  · exact z1 k hk
                · rintro o k (z | z | z | z | z | z)
                  · exact Or.inl ⟨(Or.inl z), by unfold kZc0 at z; omega⟩
                  · exact Or.inl ⟨(Or.inr (Or.inl z)), by unfold kZc1 at z; omega⟩
                  · exact Or.inl ⟨(Or.inr (Or.inr (Or.inl z))), by unfold kZc2 at z; omega⟩
                  · by_cases y : 132 + 2 * i ≤ o ∧ o ≤ 132 + 2 * i + 1
                    · exact Or.inr ⟨y.1, y.2, by unfold kZc3 at z; omega⟩
                    · exact Or.inl ⟨(Or.inr (Or.inr (Or.inr (Or.inl (by unfold kZc3 at *; omega))))), y⟩
                  · exact Or.inl ⟨(Or.inr (Or.inr (Or.inr (Or.inr (Or.inl z))))), by unfold kZc4 at z; omega⟩
                  · exact Or.inl ⟨(Or.inr (Or.inr (Or.inr (Or.inr (Or.inr z))))), by unfold kZc5 at z; omega⟩
              refine kv_iinc (ls2 := [_, _, _]) dX7_copyFrom_92 (nI (i + 1)) rfl (kv_inc1 i) rfl rfl rfl rfl ?_
              refine kv_goto dX7_copyFrom_95 69 (by decide) ?_
              exact KV.loc (ih _ hc4) (ksS rfl (ksS rfl (ksS rfl ksN)))
        · exact absurd h2 (fun q => q (Int32.le_refl _))
      · intro v hc
        have hv := hc.1
        have hn : v.2.1 193 7 = nI (kN g 2) := (hc.2.2 0 7 (by omega) (Or.inl (by unfold kZc0; omega))).trans (hcn1.trans hw1.1)
        have kd := ks_crash3 i (by omega)
        have kd1 := kd.1
        have kd2 := kd.2.1
        have kd3 := kd.2.2.1
        have kd4 := kd.2.2.2.1
        have kd5 := kd.2.2.2.2.1
        have kd6 := kd.2.2.2.2.2
        have kt := ks_crash i (by omega)
        have kt1 := kt.1
        have kt2 := kt.2.1
        have kt3 := kt.2.2.1
        have kt4 := kt.2.2.2.1
        have kt5 := kt.2.2.2.2.1
        have kt6 := kt.2.2.2.2.2
        refine kv_iload_n dX7_copyFrom_38 rfl ?_
        refine kv_aload_n dX7_copyFrom_39 rfl ?_
        refine kw_gI dX7_copyFrom_40 fX7_84 hv (by first | rfl | assumption) rfl rfl ?_
        rw [hn]
        refine kv_icmp_ge dX7_copyFrom_43 67 (by decide) (fun h7 => ?_) (fun h7 => ?_)
        · exact absurd h7 (kn_ge hi (by omega))
        · refine kv_aload_n dX7_copyFrom_46 rfl ?_
          refine kw_gR dX7_copyFrom_47 fX7_29 hv (by first | rfl | assumption) rfl rfl (by first | rfl | assumption) ?_
          refine kv_iload_n dX7_copyFrom_50 rfl ?_
          refine kw_al (t := 1) (n := 20) dX7_copyFrom_51 hv rfl rfl (i) rfl (by omega) rfl (by first | rfl | assumption) ?_
          refine kv_aload_n dX7_copyFrom_52 rfl ?_
          refine kw_gR dX7_copyFrom_53 fX7_29 hv (by first | rfl | assumption) rfl rfl (by first | rfl | assumption) ?_
          refine kv_iload_n dX7_copyFrom_56 rfl ?_
          refine kw_al (t := 1) (n := 20) dX7_copyFrom_57 hv rfl rfl (i) rfl (by omega) rfl (by first | rfl | assumption) ?_
          refine kw_VQ [_] mX1_copyFrom dX7_copyFrom_58 lX7_87 wX1_copyFrom kC1 hv rfl (by first | rfl | assumption) rfl rfl rfl (qX1_copyFrom_I hv i (by omega)) (by decide) (fun _ v3 q3 => ?_)
          obtain ⟨rfl, w3, z0, z1, z2, f3⟩ := q3
          have hc3 : kCp 193 1 u v3 (kZc (kN g 0) (i + 1) (0) (0) 0) := by
            refine kCp.upd (o1 := 72 + 3 * i) (o2 := 72 + 3 * i + 2) (S := fun o k => (o = 72 + 3 * i ∧ (k = 2 ∨ k = 3 ∨ k = 4)) ∨ (o = 72 + 3 * i + 1 ∧ (k < 2)) ∨ (o = 72 + 3 * i + 2 ∧ (k < 2))) hc (by omega) w3 (by omega) (fun b k q => f3 b k q) (fun o k h1 h2 hk => ?_) ?_
            · rcases hk with ⟨rfl, hk⟩ | ⟨rfl, hk⟩ | ⟨rfl, hk⟩
              · exact z0 k hk
              · exact z1 k hk
              · exact z2 k hk
            · rintro o k (z | z | z | z | z | z)
              · exact Or.inl ⟨(Or.inl z), by unfold kZc0 at z; omega⟩
              · exact Or.inl ⟨(Or.inr (Or.inl z)), by unfold kZc1 at z; omega⟩
              · by_cases y : 72 + 3 * i ≤ o ∧ o ≤ 72 + 3 * i + 2
                · exact Or.inr ⟨y.1, y.2, by unfold kZc2 at z; omega⟩
                · exact Or.inl ⟨(Or.inr (Or.inr (Or.inl (by unfold kZc2 at *; omega)))), y⟩
              · exact Or.inl ⟨(Or.inr (Or.inr (Or.inr (Or.inl z)))), by unfold kZc3 at z; omega⟩
              · exact Or.inl ⟨(Or.inr (Or.inr (Or.inr (Or.inr (Or.inl z))))), by unfold kZc4 at z; omega⟩
              · exact Or.inl ⟨(Or.inr (Or.inr (Or.inr (Or.inr (Or.inr z))))), by unfold kZc5 at z; omega⟩
          refine kv_iinc (ls2 := [_, _, _]) dX7_copyFrom_61 (nI (i + 1)) rfl (kv_inc1 i) rfl rfl rfl rfl ?_
          refine kv_goto dX7_copyFrom_64 38 (by decide) ?_
          exact KV.loc (ih _ hc3) (ksS rfl (ksS rfl (ksS rfl ksN)))
    · exact absurd h1 (fun q => q (Int32.le_refl _))
  · intro v hc
    have hv := hc.1
    have hn : v.2.1 193 1 = nI (kN g 0) := (hc.2.2 0 1 (by omega) (Or.inl (by unfold kZc0; omega))).trans (hcn0.trans hw0.1)
    have kd := ks_car3 i (by omega)
    have kd1 := kd.1
    have kd2 := kd.2.1
    have kd3 := kd.2.2.1
    have kd4 := kd.2.2.2
    have kt := ks_car i (by omega)
    have kt1 := kt.1
    have kt2 := kt.2.1
    have kt3 := kt.2.2.1
    have kt4 := kt.2.2.2
    refine kv_iload_n dX7_copyFrom_7 rfl ?_
    refine kv_aload_n dX7_copyFrom_8 rfl ?_
    refine kw_gI dX7_copyFrom_9 fX7_77 hv (by first | rfl | assumption) rfl rfl ?_
    rw [hn]
    refine kv_icmp_ge dX7_copyFrom_12 36 (by decide) (fun h8 => ?_) (fun h8 => ?_)
    · exact absurd h8 (kn_ge hi (by omega))
    · refine kv_aload_n dX7_copyFrom_15 rfl ?_
      refine kw_gR dX7_copyFrom_16 fX7_11 hv (by first | rfl | assumption) rfl rfl (by first | rfl | assumption) ?_
      refine kv_iload_n dX7_copyFrom_19 rfl ?_
      refine kw_al (t := 0) (n := 30) dX7_copyFrom_20 hv rfl rfl (i) rfl (by omega) rfl (by first | rfl | assumption) ?_
      refine kv_aload_n dX7_copyFrom_21 rfl ?_
      refine kw_gR dX7_copyFrom_22 fX7_11 hv (by first | rfl | assumption) rfl rfl (by first | rfl | assumption) ?_
      refine kv_iload_n dX7_copyFrom_25 rfl ?_
      refine kw_al (t := 0) (n := 30) dX7_copyFrom_26 hv rfl rfl (i) rfl (by omega) rfl (by first | rfl | assumption) ?_
      refine kw_VQ [_] mX0_copyFrom dX7_copyFrom_27 lX7_80 wX0_copyFrom kC0 hv rfl (by first | rfl | assumption) rfl rfl rfl (qX0_copyFrom_I hv i (by omega)) (by decide) (fun _ v2 q2 => ?_)
      obtain ⟨rfl, w2, z0, z1, f2⟩ := q2
      have hc2 : kCp 193 1 u v2 (kZc (i + 1) (0) (0) (0) 0) := by
        refine kCp.upd (o1 := 12 + 2 * i) (o2 := 12 + 2 * i + 1) (S := fun o k => (o = 12 + 2 * i ∧ (k = 0 ∨ k = 1 ∨ k = 2 ∨ k = 3 ∨ k = 4)) ∨ (o = 12 + 2 * i + 1 ∧ (k < 3))) hc (by omega) w2 (by omega) (fun b k q => f2 b k q) (fun o k h1 h2 hk => ?_) ?_
        · rcases hk with ⟨rfl, hk⟩ | ⟨rfl, hk⟩
          · exact z0 k hk
          · exact z1 k hk
        · rintro o k (z | z | z | z | z | z)
          · exact Or.inl ⟨(Or.inl z), by unfold kZc0 at z; omega⟩
          · by_cases y : 12 + 2 * i ≤ o ∧ o ≤ 12 + 2 * i + 1
            · exact Or.inr ⟨y.1, y.2, by unfold kZc1 at z; omega⟩
            · exact Or.inl ⟨(Or.inr (Or.inl (by unfold kZc1 at *; omega))), y⟩
          · exact Or.inl ⟨(Or.inr (Or.inr (Or.inl z))), by unfold kZc2 at z; omega⟩
          · exact Or.inl ⟨(Or.inr (Or.inr (Or.inr (Or.inl z)))), by unfold kZc3 at z; omega⟩
          · exact Or.inl ⟨(Or.inr (Or.inr (Or.inr (Or.inr (Or.inl z))))), by unfold kZc4 at z; omega⟩
          · exact Or.inl ⟨(Or.inr (Or.inr (Or.inr (Or.inr (Or.inr z))))), by unfold kZc5 at z; omega⟩
      refine kv_iinc (ls2 := [_, _, _]) dX7_copyFrom_30 (nI (i + 1)) rfl (kv_inc1 i) rfl rfl rfl rfl ?_
      refine kv_goto dX7_copyFrom_33 7 (by decide) ?_
      exact KV.loc (ih _ hc2) (ksS rfl (ksS rfl (ksS rfl ksN)))

set_option maxRecDepth 20000 in
set_option maxHeartbeats 4000000 in
theorem qX0_copyFrom_R {w : KW} {l : Launch} {v : KMem} (hv : kWd v) (c : Nat) (hi : c < 30) : KC w l mX0_copyFrom 1 0 0 [.ref (1 + (12 + 2 * c)), .ref (193 + (12 + 2 * c))] v (fun r z => r = none ∧ kWd z ∧ (∀ k, (k = 0 ∨ k = 1 ∨ k = 2 ∨ k = 3 ∨ k = 4) → z.2.1 (1 + (12 + 2 * c)) k = v.2.1 (193 + (12 + 2 * c)) k) ∧ (∀ k, k < 3 → z.2.1 (1 + (12 + 2 * c + 1)) k = v.2.1 (193 + (12 + 2 * c + 1)) k) ∧ (∀ b k, ¬ (1 + (12 + 2 * c) ≤ b ∧ b ≤ 1 + (12 + 2 * c + 1)) → z.2.1 b k = v.2.1 b k)) := by
  refine KC.of (ls := [_, _]) rfl rfl (Nat.le_of_ble_eq_true rfl) ?_
  have kd := ks_car c (by omega)
  have kd1 := kd.1
  have kd2 := kd.2.1
  have kd3 := kd.2.2.1
  have kd4 := kd.2.2.2
  have kt := ks_car3 c (by omega)
  have kt1 := kt.1
  have kt2 := kt.2.1
  have kt3 := kt.2.2.1
  have kt4 := kt.2.2.2
  refine kv_aload_n dX0_copyFrom_0 rfl ?_
  refine kv_aload_n dX0_copyFrom_1 rfl ?_
  refine kw_gI dX0_copyFrom_2 fX0_15 hv (by first | rfl | assumption) rfl rfl ?_
  refine kw_pI dX0_copyFrom_5 fX0_15 hv (by first | rfl | assumption) rfl rfl ?_
  refine kv_aload_n dX0_copyFrom_8 rfl ?_
  refine kv_aload_n dX0_copyFrom_9 rfl ?_
  refine kw_gI dX0_copyFrom_10 fX0_19 hv (by first | rfl | assumption) rfl rfl ?_
  refine kw_pI dX0_copyFrom_13 fX0_19 hv (by first | rfl | assumption) rfl rfl ?_
  refine kv_aload_n dX0_copyFrom_16 rfl ?_
  refine kv_aload_n dX0_copyFrom_17 rfl ?_
  refine kw_gI dX0_copyFrom_18 fX0_22 hv (by first | rfl | assumption) rfl rfl ?_
  refine kw_pI dX0_copyFrom_21 fX0_22 hv (by first | rfl | assumption) rfl rfl ?_
  refine kv_aload_n dX0_copyFrom_24 rfl ?_
  refine kv_aload_n dX0_copyFrom_25 rfl ?_
  refine kw_gI dX0_copyFrom_26 fX0_25 hv (by first | rfl | assumption) rfl rfl ?_
  refine kw_pI dX0_copyFrom_29 fX0_25 hv (by first | rfl | assumption) rfl rfl ?_
  refine kv_aload_n dX0_copyFrom_32 rfl ?_
  refine kv_aload_n dX0_copyFrom_33 rfl ?_
  refine kw_gI dX0_copyFrom_34 fX0_28 hv (by first | rfl | assumption) rfl rfl ?_
  refine kw_pI dX0_copyFrom_37 fX0_28 hv (by first | rfl | assumption) rfl rfl ?_
  refine kv_aload_n dX0_copyFrom_40 rfl ?_
  refine kw_gR dX0_copyFrom_41 fX0_9 hv (by first | rfl | assumption) rfl rfl (by first | rfl | assumption) ?_
  refine kv_iconst dX0_copyFrom_44 0 ki_0 ?_
  refine kv_aload_n dX0_copyFrom_45 rfl ?_
  refine kw_gR dX0_copyFrom_46 fX0_9 hv (by first | rfl | assumption) rfl rfl (by first | rfl | assumption) ?_
  refine kv_iconst dX0_copyFrom_49 0 ki_0 ?_
  refine kv_iconst dX0_copyFrom_50 3 ki_3 ?_
  refine kw_copy (i := 0) (j := 0) (n := 3) dX0_copyFrom_51 lX0_37 hv (by first | rfl | assumption) (by first | rfl | assumption) rfl rfl rfl (by omega) (by omega) rfl rfl rfl rfl rfl (by omega) ?_
  exact kv_vret dX0_copyFrom_54 rfl ⟨rfl, hv, fun k hk => by rcases hk with rfl | rfl | rfl | rfl | rfl <;> (repeat (first | rw [kv_si_n (by omega)] | rw [kv_cp_n (by omega)] | rw [kv_si_s] | rw [kv_cp_s (by omega)])), fun k hk => by (repeat (first | rw [kv_si_n (by omega)] | rw [kv_cp_n (by omega)] | rw [kv_si_s] | rw [kv_cp_s (by omega)])), fun b k hb => by (repeat (first | rw [kv_si_n (by omega)] | rw [kv_cp_n (by omega)] | rw [kv_si_s] | rw [kv_cp_s (by omega)]))⟩

set_option maxRecDepth 20000 in
set_option maxHeartbeats 4000000 in
theorem qX1_copyFrom_R {w : KW} {l : Launch} {v : KMem} (hv : kWd v) (c : Nat) (hi : c < 20) : KC w l mX1_copyFrom 1 0 0 [.ref (1 + (72 + 3 * c)), .ref (193 + (72 + 3 * c))] v (fun r z => r = none ∧ kWd z ∧ (∀ k, (k = 2 ∨ k = 3 ∨ k = 4) → z.2.1 (1 + (72 + 3 * c)) k = v.2.1 (193 + (72 + 3 * c)) k) ∧ (∀ k, k < 2 → z.2.1 (1 + (72 + 3 * c + 1)) k = v.2.1 (193 + (72 + 3 * c + 1)) k) ∧ (∀ k, k < 2 → z.2.1 (1 + (72 + 3 * c + 2)) k = v.2.1 (193 + (72 + 3 * c + 2)) k) ∧ (∀ b k, ¬ (1 + (72 + 3 * c) ≤ b ∧ b ≤ 1 + (72 + 3 * c + 2)) → z.2.1 b k = v.2.1 b k)) := by
  refine KC.of (ls := [_, _]) rfl rfl (Nat.le_of_ble_eq_true rfl) ?_
  have kd := ks_crash c (by omega)
  have kd1 := kd.1
  have kd2 := kd.2.1
  have kd3 := kd.2.2.1
  have kd4 := kd.2.2.2.1
  have kd5 := kd.2.2.2.2.1
  have kd6 := kd.2.2.2.2.2
  have kt := ks_crash3 c (by omega)
  have kt1 := kt.1
  have kt2 := kt.2.1
  have kt3 := kt.2.2.1
  have kt4 := kt.2.2.2.1
  have kt5 := kt.2.2.2.2.1
  have kt6 := kt.2.2.2.2.2
  refine kv_aload_n dX1_copyFrom_0 rfl ?_
  refine kw_gR dX1_copyFrom_1 fX1_9 hv (by first | rfl | assumption) rfl rfl (by first | rfl | assumption) ?_
  refine kv_iconst dX1_copyFrom_4 0 ki_0 ?_
  refine kv_aload_n dX1_copyFrom_5 rfl ?_
  refine kw_gR dX1_copyFrom_6 fX1_9 hv (by first | rfl | assumption) rfl rfl (by first | rfl | assumption) ?_
  refine kv_iconst dX1_copyFrom_9 0 ki_0 ?_
  refine kv_iconst dX1_copyFrom_10 2 ki_2 ?_
  refine kw_copy (i := 0) (j := 0) (n := 2) dX1_copyFrom_11 lX1_34 hv (by first | rfl | assumption) (by first | rfl | assumption) rfl rfl rfl (by omega) (by omega) rfl rfl rfl rfl rfl (by omega) ?_
  refine kv_aload_n dX1_copyFrom_14 rfl ?_
  refine kw_gR dX1_copyFrom_15 fX1_15 hv (by first | rfl | assumption) rfl rfl (by first | rfl | assumption) ?_
  refine kv_iconst dX1_copyFrom_18 0 ki_0 ?_
  refine kv_aload_n dX1_copyFrom_19 rfl ?_
  refine kw_gR dX1_copyFrom_20 fX1_15 hv (by first | rfl | assumption) rfl rfl (by first | rfl | assumption) ?_
  refine kv_iconst dX1_copyFrom_23 0 ki_0 ?_
  refine kv_iconst dX1_copyFrom_24 2 ki_2 ?_
  refine kw_copy (i := 0) (j := 0) (n := 2) dX1_copyFrom_25 lX1_34 hv (by first | rfl | assumption) (by first | rfl | assumption) rfl rfl rfl (by omega) (by omega) rfl rfl rfl rfl rfl (by omega) ?_
  refine kv_aload_n dX1_copyFrom_28 rfl ?_
  refine kv_aload_n dX1_copyFrom_29 rfl ?_
  refine kw_gI dX1_copyFrom_30 fX1_24 hv (by first | rfl | assumption) rfl rfl ?_
  refine kw_pI dX1_copyFrom_33 fX1_24 hv (by first | rfl | assumption) rfl rfl ?_
  refine kv_aload_n dX1_copyFrom_36 rfl ?_
  refine kv_aload_n dX1_copyFrom_37 rfl ?_
  refine kw_gI dX1_copyFrom_38 fX1_28 hv (by first | rfl | assumption) rfl rfl ?_
  refine kw_pI dX1_copyFrom_41 fX1_28 hv (by first | rfl | assumption) rfl rfl ?_
  refine kv_aload_n dX1_copyFrom_44 rfl ?_
  refine kv_aload_n dX1_copyFrom_45 rfl ?_
  refine kw_gI dX1_copyFrom_46 fX1_31 hv (by first | rfl | assumption) rfl rfl ?_
  refine kw_pI dX1_copyFrom_49 fX1_31 hv (by first | rfl | assumption) rfl rfl ?_
  exact kv_vret dX1_copyFrom_52 rfl ⟨rfl, hv, fun k hk => by rcases hk with rfl | rfl | rfl <;> (repeat (first | rw [kv_si_n (by omega)] | rw [kv_cp_n (by omega)] | rw [kv_si_s] | rw [kv_cp_s (by omega)])), fun k hk => by (repeat (first | rw [kv_si_n (by omega)] | rw [kv_cp_n (by omega)] | rw [kv_si_s] | rw [kv_cp_s (by omega)])), fun k hk => by (repeat (first | rw [kv_si_n (by omega)] | rw [kv_cp_n (by omega)] | rw [kv_si_s] | rw [kv_cp_s (by omega)])), fun b k hb => by (repeat (first | rw [kv_si_n (by omega)] | rw [kv_cp_n (by omega)] | rw [kv_si_s] | rw [kv_cp_s (by omega)]))⟩

set_option maxRecDepth 20000 in
set_option maxHeartbeats 4000000 in
theorem qX9_copyFrom_R {w : KW} {l : Launch} {v : KMem} (hv : kWd v) (c : Nat) (hi : c < 10) : KC w l mX9_copyFrom 1 0 0 [.ref (1 + (132 + 2 * c)), .ref (193 + (132 + 2 * c))] v (fun r z => r = none ∧ kWd z ∧ (∀ k, (k = 1 ∨ k = 2 ∨ k = 3) → z.2.1 (1 + (132 + 2 * c)) k = v.2.1 (193 + (132 + 2 * c)) k) ∧ (∀ k, k < 60 → z.2.1 (1 + (132 + 2 * c + 1)) k = v.2.1 (193 + (132 + 2 * c + 1)) k) ∧ (∀ b k, ¬ (1 + (132 + 2 * c) ≤ b ∧ b ≤ 1 + (132 + 2 * c + 1)) → z.2.1 b k = v.2.1 b k)) := by
  refine KC.of (ls := [_, _]) rfl rfl (Nat.le_of_ble_eq_true rfl) ?_
  have kd := ks_treaty c (by omega)
  have kd1 := kd.1
  have kd2 := kd.2.1
  have kd3 := kd.2.2.1
  have kd4 := kd.2.2.2
  have kt := ks_treaty3 c (by omega)
  have kt1 := kt.1
  have kt2 := kt.2.1
  have kt3 := kt.2.2.1
  have kt4 := kt.2.2.2
  refine kv_aload_n dX9_copyFrom_0 rfl ?_
  refine kw_gR dX9_copyFrom_1 fX9_9 hv (by first | rfl | assumption) rfl rfl (by first | rfl | assumption) ?_
  refine kv_iconst dX9_copyFrom_4 0 ki_0 ?_
  refine kv_aload_n dX9_copyFrom_5 rfl ?_
  refine kw_gR dX9_copyFrom_6 fX9_9 hv (by first | rfl | assumption) rfl rfl (by first | rfl | assumption) ?_
  refine kv_iconst dX9_copyFrom_9 0 ki_0 ?_
  refine kv_bipush dX9_copyFrom_10 60 kb_60 ?_
  refine kw_copy (i := 0) (j := 0) (n := 60) dX9_copyFrom_12 lX9_25 hv (by first | rfl | assumption) (by first | rfl | assumption) rfl rfl rfl (by omega) (by omega) rfl rfl rfl rfl rfl (by omega) ?_
  refine kv_aload_n dX9_copyFrom_15 rfl ?_
  refine kv_aload_n dX9_copyFrom_16 rfl ?_
  refine kw_gI dX9_copyFrom_17 fX9_22 hv (by first | rfl | assumption) rfl rfl ?_
  refine kw_pI dX9_copyFrom_20 fX9_22 hv (by first | rfl | assumption) rfl rfl ?_
  refine kv_aload_n dX9_copyFrom_23 rfl ?_
  refine kv_aload_n dX9_copyFrom_24 rfl ?_
  refine kw_gI dX9_copyFrom_25 fX9_15 hv (by first | rfl | assumption) rfl rfl ?_
  refine kw_pI dX9_copyFrom_28 fX9_15 hv (by first | rfl | assumption) rfl rfl ?_
  refine kv_aload_n dX9_copyFrom_31 rfl ?_
  refine kv_aload_n dX9_copyFrom_32 rfl ?_
  refine kw_gI dX9_copyFrom_33 fX9_19 hv (by first | rfl | assumption) rfl rfl ?_
  refine kw_pI dX9_copyFrom_36 fX9_19 hv (by first | rfl | assumption) rfl rfl ?_
  exact kv_vret dX9_copyFrom_39 rfl ⟨rfl, hv, fun k hk => by rcases hk with rfl | rfl | rfl <;> (repeat (first | rw [kv_si_n (by omega)] | rw [kv_cp_n (by omega)] | rw [kv_si_s] | rw [kv_cp_s (by omega)])), fun k hk => by (repeat (first | rw [kv_si_n (by omega)] | rw [kv_cp_n (by omega)] | rw [kv_si_s] | rw [kv_cp_s (by omega)])), fun b k hb => by (repeat (first | rw [kv_si_n (by omega)] | rw [kv_cp_n (by omega)] | rw [kv_si_s] | rw [kv_cp_s (by omega)]))⟩

set_option maxRecDepth 20000 in
set_option maxHeartbeats 4000000 in
theorem qX2_copyFrom_R {w : KW} {l : Launch} {v : KMem} (hv : kWd v) (c : Nat) (hi : c < 40) : KC w l mX2_copyFrom 1 0 0 [.ref (1 + (152 + c)), .ref (193 + (152 + c))] v (fun r z => r = none ∧ kWd z ∧ (∀ k, (k = 0 ∨ k = 1 ∨ k = 2 ∨ k = 3 ∨ k = 4 ∨ k = 5) → z.2.1 (1 + (152 + c)) k = v.2.1 (193 + (152 + c)) k) ∧ (∀ b k, ¬ (1 + (152 + c) ≤ b ∧ b ≤ 1 + (152 + c)) → z.2.1 b k = v.2.1 b k)) := by
  refine KC.of (ls := [_, _]) rfl rfl (Nat.le_of_ble_eq_true rfl) ?_
  have kd := ks_entry c (by omega)
  have kd1 := kd.1
  have kd2 := kd.2
  have kt := ks_entry3 c (by omega)
  have kt1 := kt.1
  have kt2 := kt.2
  refine kv_aload_n dX2_copyFrom_0 rfl ?_
  refine kv_aload_n dX2_copyFrom_1 rfl ?_
  refine kw_gI dX2_copyFrom_2 fX2_7 hv (by first | rfl | assumption) rfl rfl ?_
  refine kw_pI dX2_copyFrom_5 fX2_7 hv (by first | rfl | assumption) rfl rfl ?_
  refine kv_aload_n dX2_copyFrom_8 rfl ?_
  refine kv_aload_n dX2_copyFrom_9 rfl ?_
  refine kw_gI dX2_copyFrom_10 fX2_13 hv (by first | rfl | assumption) rfl rfl ?_
  refine kw_pI dX2_copyFrom_13 fX2_13 hv (by first | rfl | assumption) rfl rfl ?_
  refine kv_aload_n dX2_copyFrom_16 rfl ?_
  refine kv_aload_n dX2_copyFrom_17 rfl ?_
  refine kw_gI dX2_copyFrom_18 fX2_16 hv (by first | rfl | assumption) rfl rfl ?_
  refine kw_pI dX2_copyFrom_21 fX2_16 hv (by first | rfl | assumption) rfl rfl ?_
  refine kv_aload_n dX2_copyFrom_24 rfl ?_
  refine kv_aload_n dX2_copyFrom_25 rfl ?_
  refine kw_gI dX2_copyFrom_26 fX2_19 hv (by first | rfl | assumption) rfl rfl ?_
  refine kw_pI dX2_copyFrom_29 fX2_19 hv (by first | rfl | assumption) rfl rfl ?_
  refine kv_aload_n dX2_copyFrom_32 rfl ?_
  refine kv_aload_n dX2_copyFrom_33 rfl ?_
  refine kw_gI dX2_copyFrom_34 fX2_22 hv (by first | rfl | assumption) rfl rfl ?_
  refine kw_pI dX2_copyFrom_37 fX2_22 hv (by first | rfl | assumption) rfl rfl ?_
  refine kv_aload_n dX2_copyFrom_40 rfl ?_
  refine kv_aload_n dX2_copyFrom_41 rfl ?_
  refine kw_gI dX2_copyFrom_42 fX2_25 hv (by first | rfl | assumption) rfl rfl ?_
  refine kw_pI dX2_copyFrom_45 fX2_25 hv (by first | rfl | assumption) rfl rfl ?_
  exact kv_vret dX2_copyFrom_48 rfl ⟨rfl, hv, fun k hk => by rcases hk with rfl | rfl | rfl | rfl | rfl | rfl <;> (repeat (first | rw [kv_si_n (by omega)] | rw [kv_cp_n (by omega)] | rw [kv_si_s] | rw [kv_cp_s (by omega)])), fun b k hb => by (repeat (first | rw [kv_si_n (by omega)] | rw [kv_cp_n (by omega)] | rw [kv_si_s] | rw [kv_cp_s (by omega)]))⟩

set_option maxRecDepth 20000 in
set_option maxHeartbeats 4000000 in
theorem qX7_copyCounts_R {w : KW} {l : Launch} {v : KMem} (hv : kWd v) : KC w l mX7_copyCounts 0 0 0 [.ref 1, .ref 193] v (fun r z => r = none ∧ kWd z ∧ (∀ k, (k = 1 ∨ k = 5 ∨ k = 7 ∨ k = 9 ∨ k = 11 ∨ k = 15 ∨ k = 17 ∨ k = 18) → z.2.1 1 k = v.2.1 193 k) ∧ ∀ b k, ¬ b = 1 → z.2.1 b k = v.2.1 b k) := by
  refine KC.of (ls := [_, _]) rfl rfl (Nat.le_of_ble_eq_true rfl) ?_
  refine kv_aload_n dX7_copyCounts_0 rfl ?_
  refine kv_aload_n dX7_copyCounts_1 rfl ?_
  refine kw_gI dX7_copyCounts_2 fX7_77 hv (by first | rfl | assumption) rfl rfl ?_
  refine kw_pI dX7_copyCounts_5 fX7_77 hv (by first | rfl | assumption) rfl rfl ?_
  refine kv_aload_n dX7_copyCounts_8 rfl ?_
  refine kv_aload_n dX7_copyCounts_9 rfl ?_
  refine kw_gI dX7_copyCounts_10 fX7_108 hv (by first | rfl | assumption) rfl rfl ?_
  refine kw_pI dX7_copyCounts_13 fX7_108 hv (by first | rfl | assumption) rfl rfl ?_
  refine kv_aload_n dX7_copyCounts_16 rfl ?_
  refine kv_aload_n dX7_copyCounts_17 rfl ?_
  refine kw_gI dX7_copyCounts_18 fX7_84 hv (by first | rfl | assumption) rfl rfl ?_
  refine kw_pI dX7_copyCounts_21 fX7_84 hv (by first | rfl | assumption) rfl rfl ?_
  refine kv_aload_n dX7_copyCounts_24 rfl ?_
  refine kv_aload_n dX7_copyCounts_25 rfl ?_
  refine kw_gI dX7_copyCounts_26 fX7_90 hv (by first | rfl | assumption) rfl rfl ?_
  refine kw_pI dX7_copyCounts_29 fX7_90 hv (by first | rfl | assumption) rfl rfl ?_
  refine kv_aload_n dX7_copyCounts_32 rfl ?_
  refine kv_aload_n dX7_copyCounts_33 rfl ?_
  refine kw_gI dX7_copyCounts_34 fX7_96 hv (by first | rfl | assumption) rfl rfl ?_
  refine kw_pI dX7_copyCounts_37 fX7_96 hv (by first | rfl | assumption) rfl rfl ?_
  refine kv_aload_n dX7_copyCounts_40 rfl ?_
  refine kv_aload_n dX7_copyCounts_41 rfl ?_
  refine kw_gI dX7_copyCounts_42 fX7_111 hv (by first | rfl | assumption) rfl rfl ?_
  refine kw_pI dX7_copyCounts_45 fX7_111 hv (by first | rfl | assumption) rfl rfl ?_
  refine kv_aload_n dX7_copyCounts_48 rfl ?_
  refine kv_aload_n dX7_copyCounts_49 rfl ?_
  refine kw_gI dX7_copyCounts_50 fX7_114 hv (by first | rfl | assumption) rfl rfl ?_
  refine kw_pI dX7_copyCounts_53 fX7_114 hv (by first | rfl | assumption) rfl rfl ?_
  refine kv_aload_n dX7_copyCounts_56 rfl ?_
  refine kv_aload_n dX7_copyCounts_57 rfl ?_
  refine kw_gI dX7_copyCounts_58 fX7_65 hv (by first | rfl | assumption) rfl rfl ?_
  refine kw_pI dX7_copyCounts_61 fX7_65 hv (by first | rfl | assumption) rfl rfl ?_
  exact kv_vret dX7_copyCounts_64 rfl ⟨rfl, hv, fun k hk => by rcases hk with rfl | rfl | rfl | rfl | rfl | rfl | rfl | rfl <;> (repeat (first | rw [kv_si_n (by omega)] | rw [kv_cp_n (by omega)] | rw [kv_si_s] | rw [kv_cp_s (by omega)])), fun b k hb => by (repeat (first | rw [kv_si_n (by omega)] | rw [kv_cp_n (by omega)] | rw [kv_si_s] | rw [kv_cp_s (by omega)]))⟩

set_option maxRecDepth 20000 in
set_option maxHeartbeats 4000000 in
theorem qX7_copyFrom_R {w : KW} {l : Launch} {u : KMem} (hu : kWd u) {g : Nat → Int32} (hr : kRS 193 g u) (hg : kGI g) : KC w l mX7_copyFrom 2 0 0 [.ref 1, .ref 193] u (fun r z => r = none ∧ kCp 1 193 u z (kZc (kN g 0) (kN g 2) (kN g 3) (kN g 4) 12)) := by
  have hc0 : kCp 1 193 u u (fun _ _ => False) := ⟨hu, fun b k _ => rfl, fun o k _ q => q.elim⟩
  have hw0 := hg.cnt (k := 0) rfl
  have hcn0 : u.2.1 193 1 = g 0 := hr.1.1
  have hw1 := hg.cnt (k := 2) rfl
  have hcn1 : u.2.1 193 7 = g 2 := hr.1.2.2.1
  have hw2 := hg.cnt (k := 3) rfl
  have hcn2 : u.2.1 193 9 = g 3 := hr.1.2.2.2.1
  have hw3 := hg.cnt (k := 4) rfl
  have hcn3 : u.2.1 193 11 = g 4 := hr.1.2.2.2.2.1
  refine KC.of (ls := [_, _, _]) rfl rfl (Nat.le_of_ble_eq_true rfl) ?_
  refine kv_aload_n dX7_copyFrom_0 rfl ?_
  refine kv_aload_n dX7_copyFrom_1 rfl ?_
  refine kw_VQ [_] mX7_copyCounts dX7_copyFrom_2 lX7_73 wX7_copyCounts kC7 hu rfl (by first | rfl | assumption) rfl rfl rfl (qX7_copyCounts_R hu) (by decide) (fun _ v1 q1 => ?_)
  obtain ⟨rfl, w1, c1, f1⟩ := q1
  have hcc : kCp 1 193 u v1 (kZc 0 0 0 0 0) := by
    refine kCp.upd (o1 := 0) (o2 := 0) (S := fun _ k => k = 1 ∨ k = 5 ∨ k = 7 ∨ k = 9 ∨ k = 11 ∨ k = 15 ∨ k = 17 ∨ k = 18) hc0 (by omega) w1 (by omega) (fun b k q => f1 b k (by omega)) (fun o k h1 h2 hk => ?_) ?_
    · obtain rfl : o = 0 := by omega
      exact c1 k hk
    · rintro o k (z | z | z | z | z | z)
      · exact Or.inr ⟨by omega, by unfold kZc0 at z; omega, z.2⟩
      · exact absurd z (by unfold kZc1; omega)
      · exact absurd z (by unfold kZc2; omega)
      · exact absurd z (by unfold kZc3; omega)
      · exact absurd z (by unfold kZc4; omega)
      · exact absurd z (by unfold kZc5; omega)
  refine kv_iconst dX7_copyFrom_5 0 ki_0 ?_
  refine kv_istore_n (ls2 := [_, _, _]) dX7_copyFrom_6 rfl rfl rfl rfl ?_
  refine KV.loc (ls2 := [some (.ref 1), some (.ref 193), some (.int (nI (0)))]) ?_ (ksS rfl (ksS rfl (ksS rfl ksN)))
  refine kn_loop (P := fun i => ∀ v : KMem, kCp 1 193 u v (kZc (i) (0) (0) (0) 0) → KV w l mX7_copyFrom 2 0 0 7 [some (.ref 1), some (.ref 193), some (.int (nI i))] [] v (fun r z => r = none ∧ kCp 1 193 u z (kZc (kN g 0) (kN g 2) (kN g 3) (kN g 4) 12))) (kN g 0) ?_ (fun i hi ih => ?_) _ hcc
  · intro v hc
    have hv := hc.1
    have hn : v.2.1 1 1 = nI (kN g 0) := (hc.2.2 0 1 (by omega) (Or.inl (by unfold kZc0; omega))).trans (hcn0.trans hw0.1)
    refine kv_iload_n dX7_copyFrom_7 rfl ?_
    refine kv_aload_n dX7_copyFrom_8 rfl ?_
    refine kw_gI dX7_copyFrom_9 fX7_77 hv (by first | rfl | assumption) rfl rfl ?_
    rw [hn]
    refine kv_icmp_ge dX7_copyFrom_12 36 (by decide) (fun h1 => ?_) (fun h1 => ?_)
    · refine kv_iconst dX7_copyFrom_36 0 ki_0 ?_
      refine kv_istore_n (ls2 := [_, _, _]) dX7_copyFrom_37 rfl rfl rfl rfl ?_
      refine KV.loc (ls2 := [some (.ref 1), some (.ref 193), some (.int (nI (0)))]) ?_ (ksS rfl (ksS rfl (ksS rfl ksN)))
      refine kn_loop (P := fun i => ∀ v : KMem, kCp 1 193 u v (kZc (kN g 0) (i) (0) (0) 0) → KV w l mX7_copyFrom 2 0 0 38 [some (.ref 1), some (.ref 193), some (.int (nI i))] [] v (fun r z => r = none ∧ kCp 1 193 u z (kZc (kN g 0) (kN g 2) (kN g 3) (kN g 4) 12))) (kN g 2) ?_ (fun i hi ih => ?_) _ hc
      · intro v hc
        have hv := hc.1
        have hn : v.2.1 1 7 = nI (kN g 2) := (hc.2.2 0 7 (by omega) (Or.inl (by unfold kZc0; omega))).trans (hcn1.trans hw1.1)
        refine kv_iload_n dX7_copyFrom_38 rfl ?_
        refine kv_aload_n dX7_copyFrom_39 rfl ?_
        refine kw_gI dX7_copyFrom_40 fX7_84 hv (by first | rfl | assumption) rfl rfl ?_
        rw [hn]
        refine kv_icmp_ge dX7_copyFrom_43 67 (by decide) (fun h2 => ?_) (fun h2 => ?_)
        · refine kv_iconst dX7_copyFrom_67 0 ki_0 ?_
          refine kv_istore_n (ls2 := [_, _, _]) dX7_copyFrom_68 rfl rfl rfl rfl ?_
          refine KV.loc (ls2 := [some (.ref 1), some (.ref 193), some (.int (nI (0)))]) ?_ (ksS rfl (ksS rfl (ksS rfl ksN)))
          refine kn_loop (P := fun i => ∀ v : KMem, kCp 1 193 u v (kZc (kN g 0) (kN g 2) (i) (0) 0) → KV w l mX7_copyFrom 2 0 0 69 [some (.ref 1), some (.ref 193), some (.int (nI i))] [] v (fun r z => r = none ∧ kCp 1 193 u z (kZc (kN g 0) (kN g 2) (kN g 3) (kN g 4) 12))) (kN g 3) ?_ (fun i hi ih => ?_) _ hc
          · intro v hc
            have hv := hc.1
            have hn : v.2.1 1 9 = nI (kN g 3) := (hc.2.2 0 9 (by omega) (Or.inl (by unfold kZc0; omega))).trans (hcn2.trans hw2.1)
            refine kv_iload_n dX7_copyFrom_69 rfl ?_
            refine kv_aload_n dX7_copyFrom_70 rfl ?_
            refine kw_gI dX7_copyFrom_71 fX7_90 hv (by first | rfl | assumption) rfl rfl ?_
            rw [hn]
            refine kv_icmp_ge dX7_copyFrom_74 98 (by decide) (fun h3 => ?_) (fun h3 => ?_)
            · refine kv_iconst dX7_copyFrom_98 0 ki_0 ?_
              refine kv_istore_n (ls2 := [_, _, _]) dX7_copyFrom_99 rfl rfl rfl rfl ?_
              refine KV.loc (ls2 := [some (.ref 1), some (.ref 193), some (.int (nI (0)))]) ?_ (ksS rfl (ksS rfl (ksS rfl ksN)))
              refine kn_loop (P := fun i => ∀ v : KMem, kCp 1 193 u v (kZc (kN g 0) (kN g 2) (kN g 3) (i) 0) → KV w l mX7_copyFrom 2 0 0 100 [some (.ref 1), some (.ref 193), some (.int (nI i))] [] v (fun r z => r = none ∧ kCp 1 193 u z (kZc (kN g 0) (kN g 2) (kN g 3) (kN g 4) 12))) (kN g 4) ?_ (fun i hi ih => ?_) _ hc
              · intro v hc
                have hv := hc.1
                have hn : v.2.1 1 11 = nI (kN g 4) := (hc.2.2 0 11 (by omega) (Or.inl (by unfold kZc0; omega))).trans (hcn3.trans hw3.1)
                refine kv_iload_n dX7_copyFrom_100 rfl ?_
                refine kv_aload_n dX7_copyFrom_101 rfl ?_
                refine kw_gI dX7_copyFrom_102 fX7_96 hv (by first | rfl | assumption) rfl rfl ?_
                rw [hn]
                refine kv_icmp_ge dX7_copyFrom_105 129 (by decide) (fun h4 => ?_) (fun h4 => ?_)
                · refine kv_aload_n dX7_copyFrom_129 rfl ?_
                  refine kw_gR dX7_copyFrom_130 fX7_17 hv (by first | rfl | assumption) rfl rfl (by first | rfl | assumption) ?_
                  refine kv_iconst dX7_copyFrom_133 0 ki_0 ?_
                  refine kv_aload_n dX7_copyFrom_134 rfl ?_
                  refine kw_gR dX7_copyFrom_135 fX7_17 hv (by first | rfl | assumption) rfl rfl (by first | rfl | assumption) ?_
                  refine kv_iconst dX7_copyFrom_138 0 ki_0 ?_
                  refine kv_bipush dX7_copyFrom_139 16 kb_16 ?_
                  refine kw_copy (i := 0) (j := 0) (n := 16) dX7_copyFrom_141 lX7_102 hv (by first | rfl | assumption) (by first | rfl | assumption) rfl rfl rfl (by omega) (by omega) rfl rfl rfl rfl rfl (by omega) ?_
                  have hr0 : kCp 1 193 u (kv_cp v 195 0 3 0 16) (kZc (kN g 0) (kN g 2) (kN g 3) (kN g 4) 3) := by
                    refine kCp.upd (o1 := 2) (o2 := 2) (S := fun o k => k < 16) hc (by omega) hv (by omega) (fun b k q => kv_cp_n (by omega)) (fun o k h1 h2 hk => ?_) ?_
                    · obtain rfl : o = 2 := by omega
                      exact kv_cp_s hk
                    · rintro o k (z | z | z | z | z | z)
                      · exact Or.inl ⟨(Or.inl z), by unfold kZc0 at z; omega⟩
                      · exact Or.inl ⟨(Or.inr (Or.inl z)), by unfold kZc1 at z; omega⟩
                      · exact Or.inl ⟨(Or.inr (Or.inr (Or.inl z))), by unfold kZc2 at z; omega⟩
                      · exact Or.inl ⟨(Or.inr (Or.inr (Or.inr (Or.inl z)))), by unfold kZc3 at z; omega⟩
                      · exact Or.inl ⟨(Or.inr (Or.inr (Or.inr (Or.inr (Or.inl z))))), by unfold kZc4 at z; omega⟩
                      · by_cases y : 2 ≤ o ∧ o ≤ 2
                        · exact Or.inr ⟨y.1, y.2, by have h4 := z.2.2.2; rw [show o = 2 by omega] at h4; exact h4⟩
                        · exact Or.inl ⟨(Or.inr (Or.inr (Or.inr (Or.inr (Or.inr (show kZc5 _ o k from ⟨z.1, by have h0 := z.1; have h1 := z.2.1; omega, z.2.2.1, z.2.2.2⟩)))))), y⟩
                  refine kv_aload_n dX7_copyFrom_144 rfl ?_
                  refine kw_gR dX7_copyFrom_145 fX7_21 hv (by first | rfl | assumption) rfl rfl (by first | rfl | assumption) ?_
                  refine kv_iconst dX7_copyFrom_148 0 ki_0 ?_
                  refine kv_aload_n dX7_copyFrom_149 rfl ?_
                  refine kw_gR dX7_copyFrom_150 fX7_21 hv (by first | rfl | assumption) rfl rfl (by first | rfl | assumption) ?_
                  refine kv_iconst dX7_copyFrom_153 0 ki_0 ?_
                  refine kv_bipush dX7_copyFrom_154 16 kb_16 ?_
                  refine kw_copy (i := 0) (j := 0) (n := 16) dX7_copyFrom_156 lX7_102 hv (by first | rfl | assumption) (by first | rfl | assumption) rfl rfl rfl (by omega) (by omega) rfl rfl rfl rfl rfl (by omega) ?_
                  have hr1 : kCp 1 193 u (kv_cp (kv_cp v 195 0 3 0 16) 196 0 4 0 16) (kZc (kN g 0) (kN g 2) (kN g 3) (kN g 4) 4) := by
                    refine kCp.upd (o1 := 3) (o2 := 3) (S := fun o k => k < 16) hr0 (by omega) hv (by omega) (fun b k q => kv_cp_n (by omega)) (fun o k h1 h2 hk => ?_) ?_
                    · obtain rfl : o = 3 := by omega
                      exact kv_cp_s hk
                    · rintro o k (z | z | z | z | z | z)
                      · exact Or.inl ⟨(Or.inl z), by unfold kZc0 at z; omega⟩
                      · exact Or.inl ⟨(Or.inr (Or.inl z)), by unfold kZc1 at z; omega⟩
                      · exact Or.inl ⟨(Or.inr (Or.inr (Or.inl z))), by unfold kZc2 at z; omega⟩
                      · exact Or.inl ⟨(Or.inr (Or.inr (Or.inr (Or.inl z)))), by unfold kZc3 at z; omega⟩
                      · exact Or.inl ⟨(Or.inr (Or.inr (Or.inr (Or.inr (Or.inl z))))), by unfold kZc4 at z; omega⟩
                      · by_cases y : 3 ≤ o ∧ o ≤ 3
                        · exact Or.inr ⟨y.1, y.2, by have h4 := z.2.2.2; rw [show o = 3 by omega] at h4; exact h4⟩
                        · exact Or.inl ⟨(Or.inr (Or.inr (Or.inr (Or.inr (Or.inr (show kZc5 _ o k from ⟨z.1, by have h0 := z.1; have h1 := z.2.1; omega, z.2.2.1, z.2.2.2⟩)))))), y⟩
                  refine kv_aload_n dX7_copyFrom_159 rfl ?_
                  refine kw_gR dX7_copyFrom_160 fX7_24 hv (by first | rfl | assumption) rfl rfl (by first | rfl | assumption) ?_
                  refine kv_iconst dX7_copyFrom_163 0 ki_0 ?_
                  refine kv_aload_n dX7_copyFrom_164 rfl ?_
                  refine kw_gR dX7_copyFrom_165 fX7_24 hv (by first | rfl | assumption) rfl rfl (by first | rfl | assumption) ?_
                  refine kv_iconst dX7_copyFrom_168 0 ki_0 ?_
                  refine kv_bipush dX7_copyFrom_169 16 kb_16 ?_
                  refine kw_copy (i := 0) (j := 0) (n := 16) dX7_copyFrom_171 lX7_102 hv (by first | rfl | assumption) (by first | rfl | assumption) rfl rfl rfl (by omega) (by omega) rfl rfl rfl rfl rfl (by omega) ?_
                  have hr2 : kCp 1 193 u (kv_cp (kv_cp (kv_cp v 195 0 3 0 16) 196 0 4 0 16) 197 0 5 0 16) (kZc (kN g 0) (kN g 2) (kN g 3) (kN g 4) 5) := by
                    refine kCp.upd (o1 := 4) (o2 := 4) (S := fun o k => k < 16) hr1 (by omega) hv (by omega) (fun b k q => kv_cp_n (by omega)) (fun o k h1 h2 hk => ?_) ?_
                    · obtain rfl : o = 4 := by omega
                      exact kv_cp_s hk
                    · rintro o k (z | z | z | z | z | z)
                      · exact Or.inl ⟨(Or.inl z), by unfold kZc0 at z; omega⟩
                      · exact Or.inl ⟨(Or.inr (Or.inl z)), by unfold kZc1 at z; omega⟩
                      · exact Or.inl ⟨(Or.inr (Or.inr (Or.inl z))), by unfold kZc2 at z; omega⟩
                      · exact Or.inl ⟨(Or.inr (Or.inr (Or.inr (Or.inl z)))), by unfold kZc3 at z; omega⟩
                      · exact Or.inl ⟨(Or.inr (Or.inr (Or.inr (Or.inr (Or.inl z))))), by unfold kZc4 at z; omega⟩
                      · by_cases y : 4 ≤ o ∧ o ≤ 4
                        · exact Or.inr ⟨y.1, y.2, by have h4 := z.2.2.2; rw [show o = 4 by omega] at h4; exact h4⟩
                        · exact Or.inl ⟨(Or.inr (Or.inr (Or.inr (Or.inr (Or.inr (show kZc5 _ o k from ⟨z.1, by have h0 := z.1; have h1 := z.2.1; omega, z.2.2.1, z.2.2.2⟩)))))), y⟩
                  refine kv_aload_n dX7_copyFrom_174 rfl ?_
                  refine kw_gR dX7_copyFrom_175 fX7_45 hv (by first | rfl | assumption) rfl rfl (by first | rfl | assumption) ?_
                  refine kv_iconst dX7_copyFrom_178 0 ki_0 ?_
                  refine kv_aload_n dX7_copyFrom_179 rfl ?_
                  refine kw_gR dX7_copyFrom_180 fX7_45 hv (by first | rfl | assumption) rfl rfl (by first | rfl | assumption) ?_
                  refine kv_iconst dX7_copyFrom_183 0 ki_0 ?_
                  refine kv_bipush dX7_copyFrom_184 24 kb_24 ?_
                  refine kw_copy (i := 0) (j := 0) (n := 24) dX7_copyFrom_186 lX7_102 hv (by first | rfl | assumption) (by first | rfl | assumption) rfl rfl rfl (by omega) (by omega) rfl rfl rfl rfl rfl (by omega) ?_
                  have hr3 : kCp 1 193 u (kv_cp (kv_cp (kv_cp (kv_cp v 195 0 3 0 16) 196 0 4 0 16) 197 0 5 0 16) 201 0 9 0 24) (kZc (kN g 0) (kN g 2) (kN g 3) (kN g 4) 9) := by
                    refine kCp.upd (o1 := 8) (o2 := 8) (S := fun o k => k < 24) hr2 (by omega) hv (by omega) (fun b k q => kv_cp_n (by omega)) (fun o k h1 h2 hk => ?_) ?_
                    · obtain rfl : o = 8 := by omega
                      exact kv_cp_s hk
                    · rintro o k (z | z | z | z | z | z)
                      · exact Or.inl ⟨(Or.inl z), by unfold kZc0 at z; omega⟩
                      · exact Or.inl ⟨(Or.inr (Or.inl z)), by unfold kZc1 at z; omega⟩
                      · exact Or.inl ⟨(Or.inr (Or.inr (Or.inl z))), by unfold kZc2 at z; omega⟩
                      · exact Or.inl ⟨(Or.inr (Or.inr (Or.inr (Or.inl z)))), by unfold kZc3 at z; omega⟩
                      · exact Or.inl ⟨(Or.inr (Or.inr (Or.inr (Or.inr (Or.inl z))))), by unfold kZc4 at z; omega⟩
                      · by_cases y : 8 ≤ o ∧ o ≤ 8
                        · exact Or.inr ⟨y.1, y.2, by have h4 := z.2.2.2; rw [show o = 8 by omega] at h4; exact h4⟩
                        · exact Or.inl ⟨(Or.inr (Or.inr (Or.inr (Or.inr (Or.inr (kZc5_8 z y)))))), y⟩
                  refine kv_aload_n dX7_copyFrom_189 rfl ?_
                  refine kw_gR dX7_copyFrom_190 fX7_56 hv (by first | rfl | assumption) rfl rfl (by first | rfl | assumption) ?_
                  refine kv_iconst dX7_copyFrom_193 0 ki_0 ?_
                  refine kv_aload_n dX7_copyFrom_194 rfl ?_
                  refine kw_gR dX7_copyFrom_195 fX7_56 hv (by first | rfl | assumption) rfl rfl (by first | rfl | assumption) ?_
                  refine kv_iconst dX7_copyFrom_198 0 ki_0 ?_
                  refine kv_bipush dX7_copyFrom_199 7 kb_7 ?_
                  refine kw_copy (i := 0) (j := 0) (n := 7) dX7_copyFrom_201 lX7_102 hv (by first | rfl | assumption) (by first | rfl | assumption) rfl rfl rfl (by omega) (by omega) rfl rfl rfl rfl rfl (by omega) ?_
                  have hr4 : kCp 1 193 u (kv_cp (kv_cp (kv_cp (kv_cp (kv_cp v 195 0 3 0 16) 196 0 4 0 16) 197 0 5 0 16) 201 0 9 0 24) 202 0 10 0 7) (kZc (kN g 0) (kN g 2) (kN g 3) (kN g 4) 10) := by
                    refine kCp.upd (o1 := 9) (o2 := 9) (S := fun o k => k < 7) hr3 (by omega) hv (by omega) (fun b k q => kv_cp_n (by omega)) (fun o k h1 h2 hk => ?_) ?_
                    · obtain rfl : o = 9 := by omega
                      exact kv_cp_s hk
                    · rintro o k (z | z | z | z | z | z)
                      · exact Or.inl ⟨(Or.inl z), by unfold kZc0 at z; omega⟩
                      · exact Or.inl ⟨(Or.inr (Or.inl z)), by unfold kZc1 at z; omega⟩
                      · exact Or.inl ⟨(Or.inr (Or.inr (Or.inl z))), by unfold kZc2 at z; omega⟩
                      · exact Or.inl ⟨(Or.inr (Or.inr (Or.inr (Or.inl z)))), by unfold kZc3 at z; omega⟩
                      · exact Or.inl ⟨(Or.inr (Or.inr (Or.inr (Or.inr (Or.inl z))))), by unfold kZc4 at z; omega⟩
                      · by_cases y : 9 ≤ o ∧ o ≤ 9
                        · exact Or.inr ⟨y.1, y.2, by have h4 := z.2.2.2; rw [show o = 9 by omega] at h4; exact h4⟩
                        · exact Or.inl ⟨(Or.inr (Or.inr (Or.inr (Or.inr (Or.inr (show kZc5 _ o k from ⟨z.1, by have h0 := z.1; have h1 := z.2.1; omega, z.2.2.1, z.2.2.2⟩)))))), y⟩
                  refine kv_aload_n dX7_copyFrom_204 rfl ?_
                  refine kw_gR dX7_copyFrom_205 fX7_59 hv (by first | rfl | assumption) rfl rfl (by first | rfl | assumption) ?_
                  refine kv_iconst dX7_copyFrom_208 0 ki_0 ?_
                  refine kv_aload_n dX7_copyFrom_209 rfl ?_
                  refine kw_gR dX7_copyFrom_210 fX7_59 hv (by first | rfl | assumption) rfl rfl (by first | rfl | assumption) ?_
                  refine kv_iconst dX7_copyFrom_213 0 ki_0 ?_
                  refine kv_bipush dX7_copyFrom_214 60 kb_60 ?_
                  refine kw_copy (i := 0) (j := 0) (n := 60) dX7_copyFrom_216 lX7_102 hv (by first | rfl | assumption) (by first | rfl | assumption) rfl rfl rfl (by omega) (by omega) rfl rfl rfl rfl rfl (by omega) ?_
                  have hr5 : kCp 1 193 u (kv_cp (kv_cp (kv_cp (kv_cp (kv_cp (kv_cp v 195 0 3 0 16) 196 0 4 0 16) 197 0 5 0 16) 201 0 9 0 24) 202 0 10 0 7) 203 0 11 0 60) (kZc (kN g 0) (kN g 2) (kN g 3) (kN g 4) 11) := by
                    refine kCp.upd (o1 := 10) (o2 := 10) (S := fun o k => k < 60) hr4 (by omega) hv (by omega) (fun b k q => kv_cp_n (by omega)) (fun o k h1 h2 hk => ?_) ?_
                    · obtain rfl : o = 10 := by omega
                      exact kv_cp_s hk
                    · rintro o k (z | z | z | z | z | z)
                      · exact Or.inl ⟨(Or.inl z), by unfold kZc0 at z; omega⟩
                      · exact Or.inl ⟨(Or.inr (Or.inl z)), by unfold kZc1 at z; omega⟩
                      · exact Or.inl ⟨(Or.inr (Or.inr (Or.inl z))), by unfold kZc2 at z; omega⟩
                      · exact Or.inl ⟨(Or.inr (Or.inr (Or.inr (Or.inl z)))), by unfold kZc3 at z; omega⟩
                      · exact Or.inl ⟨(Or.inr (Or.inr (Or.inr (Or.inr (Or.inl z))))), by unfold kZc4 at z; omega⟩
                      · by_cases y : 10 ≤ o ∧ o ≤ 10
                        · exact Or.inr ⟨y.1, y.2, by have h4 := z.2.2.2; rw [show o = 10 by omega] at h4; exact h4⟩
                        · exact Or.inl ⟨(Or.inr (Or.inr (Or.inr (Or.inr (Or.inr (show kZc5 _ o k from ⟨z.1, by have h0 := z.1; have h1 := z.2.1; omega, z.2.2.1, z.2.2.2⟩)))))), y⟩
                  refine kv_aload_n dX7_copyFrom_219 rfl ?_
                  refine kw_gR dX7_copyFrom_220 fX7_62 hv (by first | rfl | assumption) rfl rfl (by first | rfl | assumption) ?_
                  refine kv_iconst dX7_copyFrom_223 0 ki_0 ?_
                  refine kv_aload_n dX7_copyFrom_224 rfl ?_
                  refine kw_gR dX7_copyFrom_225 fX7_62 hv (by first | rfl | assumption) rfl rfl (by first | rfl | assumption) ?_
                  refine kv_iconst dX7_copyFrom_228 0 ki_0 ?_
                  refine kv_bipush dX7_copyFrom_229 33 kb_33 ?_
                  refine kw_copy (i := 0) (j := 0) (n := 33) dX7_copyFrom_231 lX7_102 hv (by first | rfl | assumption) (by first | rfl | assumption) rfl rfl rfl (by omega) (by omega) rfl rfl rfl rfl rfl (by omega) ?_
                  have hr6 : kCp 1 193 u (kv_cp (kv_cp (kv_cp (kv_cp (kv_cp (kv_cp (kv_cp v 195 0 3 0 16) 196 0 4 0 16) 197 0 5 0 16) 201 0 9 0 24) 202 0 10 0 7) 203 0 11 0 60) 204 0 12 0 33) (kZc (kN g 0) (kN g 2) (kN g 3) (kN g 4) 12) := by
                    refine kCp.upd (o1 := 11) (o2 := 11) (S := fun o k => k < 33) hr5 (by omega) hv (by omega) (fun b k q => kv_cp_n (by omega)) (fun o k h1 h2 hk => ?_) ?_
                    · obtain rfl : o = 11 := by omega
                      exact kv_cp_s hk
                    · rintro o k (z | z | z | z | z | z)
                      · exact Or.inl ⟨(Or.inl z), by unfold kZc0 at z; omega⟩
                      · exact Or.inl ⟨(Or.inr (Or.inl z)), by unfold kZc1 at z; omega⟩
                      · exact Or.inl ⟨(Or.inr (Or.inr (Or.inl z))), by unfold kZc2 at z; omega⟩
                      · exact Or.inl ⟨(Or.inr (Or.inr (Or.inr (Or.inl z)))), by unfold kZc3 at z; omega⟩
                      · exact Or.inl ⟨(Or.inr (Or.inr (Or.inr (Or.inr (Or.inl z))))), by unfold kZc4 at z; omega⟩
                      · by_cases y : 11 ≤ o ∧ o ≤ 11
                        · exact Or.inr ⟨y.1, y.2, by have h4 := z.2.2.2; rw [show o = 11 by omega] at h4; exact h4⟩
                        · exact Or.inl ⟨(Or.inr (Or.inr (Or.inr (Or.inr (Or.inr (show kZc5 _ o k from ⟨z.1, by have h0 := z.1; have h1 := z.2.1; omega, z.2.2.1, z.2.2.2⟩)))))), y⟩
                  exact kv_vret dX7_copyFrom_234 rfl ⟨rfl, hr6⟩
                · exact absurd h4 (fun q => q (Int32.le_refl _))
              · intro v hc
                have hv := hc.1
                have hn : v.2.1 1 11 = nI (kN g 4) := (hc.2.2 0 11 (by omega) (Or.inl (by unfold kZc0; omega))).trans (hcn3.trans hw3.1)
                have kd := ks_entry i (by omega)
                have kd1 := kd.1
                have kd2 := kd.2
                have kt := ks_entry3 i (by omega)
                have kt1 := kt.1
                have kt2 := kt.2
                refine kv_iload_n dX7_copyFrom_100 rfl ?_
                refine kv_aload_n dX7_copyFrom_101 rfl ?_
                refine kw_gI dX7_copyFrom_102 fX7_96 hv (by first | rfl | assumption) rfl rfl ?_
                rw [hn]
                refine kv_icmp_ge dX7_copyFrom_105 129 (by decide) (fun h5 => ?_) (fun h5 => ?_)
                · exact absurd h5 (kn_ge hi (by omega))
                · refine kv_aload_n dX7_copyFrom_108 rfl ?_
                  refine kw_gR dX7_copyFrom_109 fX7_41 hv (by first | rfl | assumption) rfl rfl (by first | rfl | assumption) ?_
                  refine kv_iload_n dX7_copyFrom_112 rfl ?_
                  refine kw_al (t := 3) (n := 40) dX7_copyFrom_113 hv rfl rfl (i) rfl (by omega) rfl (by first | rfl | assumption) ?_
                  refine kv_aload_n dX7_copyFrom_114 rfl ?_
                  refine kw_gR dX7_copyFrom_115 fX7_41 hv (by first | rfl | assumption) rfl rfl (by first | rfl | assumption) ?_
                  refine kv_iload_n dX7_copyFrom_118 rfl ?_
                  refine kw_al (t := 3) (n := 40) dX7_copyFrom_119 hv rfl rfl (i) rfl (by omega) rfl (by first | rfl | assumption) ?_
                  refine kw_VQ [_] mX2_copyFrom dX7_copyFrom_120 lX7_99 wX2_copyFrom kC2 hv rfl (by first | rfl | assumption) rfl rfl rfl (qX2_copyFrom_R hv i (by omega)) (by decide) (fun _ v5 q5 => ?_)
                  obtain ⟨rfl, w5, z0, f5⟩ := q5
                  have hc5 : kCp 1 193 u v5 (kZc (kN g 0) (kN g 2) (kN g 3) (i + 1) 0) := by
                    refine kCp.upd (o1 := 152 + i) (o2 := 152 + i) (S := fun o k => (o = 152 + i ∧ (k = 0 ∨ k = 1 ∨ k = 2 ∨ k = 3 ∨ k = 4 ∨ k = 5))) hc (by omega) w5 (by omega) (fun b k q => f5 b k q) (fun o k h1 h2 hk => ?_) ?_
                    · rcases hk with ⟨rfl, hk⟩
                      · exact z0 k hk
                    · rintro o k (z | z | z | z | z | z)
                      · exact Or.inl ⟨(Or.inl z), by unfold kZc0 at z; omega⟩
                      · exact Or.inl ⟨(Or.inr (Or.inl z)), by unfold kZc1 at z; omega⟩
                      · exact Or.inl ⟨(Or.inr (Or.inr (Or.inl z))), by unfold kZc2 at z; omega⟩
                      · exact Or.inl ⟨(Or.inr (Or.inr (Or.inr (Or.inl z)))), by unfold kZc3 at z; omega⟩
                      · by_cases y : 152 + i ≤ o ∧ o ≤ 152 + i
                        · exact Or.inr ⟨y.1, y.2, by unfold kZc4 at z; omega⟩
                        · exact Or.inl ⟨(Or.inr (Or.inr (Or.inr (Or.inr (Or.inl (by unfold kZc4 at *; omega)))))), y⟩
                      · exact Or.inl ⟨(Or.inr (Or.inr (Or.inr (Or.inr (Or.inr z))))), by unfold kZc5 at z; omega⟩
                  refine kv_iinc (ls2 := [_, _, _]) dX7_copyFrom_123 (nI (i + 1)) rfl (kv_inc1 i) rfl rfl rfl rfl ?_
                  refine kv_goto dX7_copyFrom_126 100 (by decide) ?_
                  exact KV.loc (ih _ hc5) (ksS rfl (ksS rfl (ksS rfl ksN)))
            · exact absurd h3 (fun q => q (Int32.le_refl _))
          · intro v hc
            have hv := hc.1
            have hn : v.2.1 1 9 = nI (kN g 3) := (hc.2.2 0 9 (by omega) (Or.inl (by unfold kZc0; omega))).trans (hcn2.trans hw2.1)
            have kd := ks_treaty i (by omega)
            have kd1 := kd.1
            have kd2 := kd.2.1
            have kd3 := kd.2.2.1
            have kd4 := kd.2.2.2
            have kt := ks_treaty3 i (by omega)
            have kt1 := kt.1
            have kt2 := kt.2.1
            have kt3 := kt.2.2.1
            have kt4 := kt.2.2.2
            refine kv_iload_n dX7_copyFrom_69 rfl ?_
            refine kv_aload_n dX7_copyFrom_70 rfl ?_
            refine kw_gI dX7_copyFrom_71 fX7_90 hv (by first | rfl | assumption) rfl rfl ?_
            rw [hn]
            refine kv_icmp_ge dX7_copyFrom_74 98 (by decide) (fun h6 => ?_) (fun h6 => ?_)
            · exact absurd h6 (kn_ge hi (by omega))
            · refine kv_aload_n dX7_copyFrom_77 rfl ?_
              refine kw_gR dX7_copyFrom_78 fX7_35 hv (by first | rfl | assumption) rfl rfl (by first | rfl | assumption) ?_
              refine kv_iload_n dX7_copyFrom_81 rfl ?_
              refine kw_al (t := 2) (n := 10) dX7_copyFrom_82 hv rfl rfl (i) rfl (by omega) rfl (by first | rfl | assumption) ?_
              refine kv_aload_n dX7_copyFrom_83 rfl ?_
              refine kw_gR dX7_copyFrom_84 fX7_35 hv (by first | rfl | assumption) rfl rfl (by first | rfl | assumption) ?_
              refine kv_iload_n dX7_copyFrom_87 rfl ?_
              refine kw_al (t := 2) (n := 10) dX7_copyFrom_88 hv rfl rfl (i) rfl (by omega) rfl (by first | rfl | assumption) ?_
              refine kw_VQ [_] mX9_copyFrom dX7_copyFrom_89 lX7_93 wX9_copyFrom kC9 hv rfl (by first | rfl | assumption) rfl rfl rfl (qX9_copyFrom_R hv i (by omega)) (by decide) (fun _ v4 q4 => ?_)
              obtain ⟨rfl, w4, z0, z1, f4⟩ := q4
              have hc4 : kCp 1 193 u v4 (kZc (kN g 0) (kN g 2) (i + 1) (0) 0) := by
                refine kCp.upd (o1 := 132 + 2 * i) (o2 := 132 + 2 * i + 1) (S := fun o k => (o = 132 + 2 * i ∧ (k = 1 ∨ k = 2 ∨ k = 3)) ∨ (o = 132 + 2 * i + 1 ∧ (k < 60))) hc (by omega) w4 (by omega) (fun b k q => f4 b k q) (fun o k h1 h2 hk => ?_) ?_
                · rcases hk with ⟨rfl, hk⟩ | ⟨rfl, hk⟩
                  · exact z0 k hk
                  · exact z1 k hk
                · rintro o k (z | z | z | z | z | z)
                  · exact Or.inl ⟨(Or.inl z), by unfold kZc0 at z; omega⟩
                  · exact Or.inl ⟨(Or.inr (Or.inl z)), by unfold kZc1 at z; omega⟩
                  · exact Or.inl ⟨(Or.inr (Or.inr (Or.inl z))), by unfold kZc2 at z; omega⟩
                  · by_cases y : 132 + 2 * i ≤ o ∧ o ≤ 132 + 2 * i + 1
                    · exact Or.inr ⟨y.1, y.2, by unfold kZc3 at z; omega⟩
                    · exact Or.inl ⟨(Or.inr (Or.inr (Or.inr (Or.inl (by unfold kZc3 at *; omega))))), y⟩
                  · exact Or.inl ⟨(Or.inr (Or.inr (Or.inr (Or.inr (Or.inl z))))), by unfold kZc4 at z; omega⟩
                  · exact Or.inl ⟨(Or.inr (Or.inr (Or.inr (Or.inr (Or.inr z))))), by unfold kZc5 at z; omega⟩
              refine kv_iinc (ls2 := [_, _, _]) dX7_copyFrom_92 (nI (i + 1)) rfl (kv_inc1 i) rfl rfl rfl rfl ?_
              refine kv_goto dX7_copyFrom_95 69 (by decide) ?_
              exact KV.loc (ih _ hc4) (ksS rfl (ksS rfl (ksS rfl ksN)))
        · exact absurd h2 (fun q => q (Int32.le_refl _))
      · intro v hc
        have hv := hc.1
        have hn : v.2.1 1 7 = nI (kN g 2) := (hc.2.2 0 7 (by omega) (Or.inl (by unfold kZc0; omega))).trans (hcn1.trans hw1.1)
        have kd := ks_crash i (by omega)
        have kd1 := kd.1
        have kd2 := kd.2.1
        have kd3 := kd.2.2.1
        have kd4 := kd.2.2.2.1
        have kd5 := kd.2.2.2.2.1
        have kd6 := kd.2.2.2.2.2
        have kt := ks_crash3 i (by omega)
        have kt1 := kt.1
        have kt2 := kt.2.1
        have kt3 := kt.2.2.1
        have kt4 := kt.2.2.2.1
        have kt5 := kt.2.2.2.2.1
        have kt6 := kt.2.2.2.2.2
        refine kv_iload_n dX7_copyFrom_38 rfl ?_
        refine kv_aload_n dX7_copyFrom_39 rfl ?_
        refine kw_gI dX7_copyFrom_40 fX7_84 hv (by first | rfl | assumption) rfl rfl ?_
        rw [hn]
        refine kv_icmp_ge dX7_copyFrom_43 67 (by decide) (fun h7 => ?_) (fun h7 => ?_)
        · exact absurd h7 (kn_ge hi (by omega))
        · refine kv_aload_n dX7_copyFrom_46 rfl ?_
          refine kw_gR dX7_copyFrom_47 fX7_29 hv (by first | rfl | assumption) rfl rfl (by first | rfl | assumption) ?_
          refine kv_iload_n dX7_copyFrom_50 rfl ?_
          refine kw_al (t := 1) (n := 20) dX7_copyFrom_51 hv rfl rfl (i) rfl (by omega) rfl (by first | rfl | assumption) ?_
          refine kv_aload_n dX7_copyFrom_52 rfl ?_
          refine kw_gR dX7_copyFrom_53 fX7_29 hv (by first | rfl | assumption) rfl rfl (by first | rfl | assumption) ?_
          refine kv_iload_n dX7_copyFrom_56 rfl ?_
          refine kw_al (t := 1) (n := 20) dX7_copyFrom_57 hv rfl rfl (i) rfl (by omega) rfl (by first | rfl | assumption) ?_
          refine kw_VQ [_] mX1_copyFrom dX7_copyFrom_58 lX7_87 wX1_copyFrom kC1 hv rfl (by first | rfl | assumption) rfl rfl rfl (qX1_copyFrom_R hv i (by omega)) (by decide) (fun _ v3 q3 => ?_)
          obtain ⟨rfl, w3, z0, z1, z2, f3⟩ := q3
          have hc3 : kCp 1 193 u v3 (kZc (kN g 0) (i + 1) (0) (0) 0) := by
            refine kCp.upd (o1 := 72 + 3 * i) (o2 := 72 + 3 * i + 2) (S := fun o k => (o = 72 + 3 * i ∧ (k = 2 ∨ k = 3 ∨ k = 4)) ∨ (o = 72 + 3 * i + 1 ∧ (k < 2)) ∨ (o = 72 + 3 * i + 2 ∧ (k < 2))) hc (by omega) w3 (by omega) (fun b k q => f3 b k q) (fun o k h1 h2 hk => ?_) ?_
            · rcases hk with ⟨rfl, hk⟩ | ⟨rfl, hk⟩ | ⟨rfl, hk⟩
              · exact z0 k hk
              · exact z1 k hk
              · exact z2 k hk
            · rintro o k (z | z | z | z | z | z)
              · exact Or.inl ⟨(Or.inl z), by unfold kZc0 at z; omega⟩
              · exact Or.inl ⟨(Or.inr (Or.inl z)), by unfold kZc1 at z; omega⟩
              · by_cases y : 72 + 3 * i ≤ o ∧ o ≤ 72 + 3 * i + 2
                · exact Or.inr ⟨y.1, y.2, by unfold kZc2 at z; omega⟩
                · exact Or.inl ⟨(Or.inr (Or.inr (Or.inl (by unfold kZc2 at *; omega)))), y⟩
              · exact Or.inl ⟨(Or.inr (Or.inr (Or.inr (Or.inl z)))), by unfold kZc3 at z; omega⟩
              · exact Or.inl ⟨(Or.inr (Or.inr (Or.inr (Or.inr (Or.inl z))))), by unfold kZc4 at z; omega⟩
              · exact Or.inl ⟨(Or.inr (Or.inr (Or.inr (Or.inr (Or.inr z))))), by unfold kZc5 at z; omega⟩
          refine kv_iinc (ls2 := [_, _, _]) dX7_copyFrom_61 (nI (i + 1)) rfl (kv_inc1 i) rfl rfl rfl rfl ?_
          refine kv_goto dX7_copyFrom_64 38 (by decide) ?_
          exact KV.loc (ih _ hc3) (ksS rfl (ksS rfl (ksS rfl ksN)))
    · exact absurd h1 (fun q => q (Int32.le_refl _))
  · intro v hc
    have hv := hc.1
    have hn : v.2.1 1 1 = nI (kN g 0) := (hc.2.2 0 1 (by omega) (Or.inl (by unfold kZc0; omega))).trans (hcn0.trans hw0.1)
    have kd := ks_car i (by omega)
    have kd1 := kd.1
    have kd2 := kd.2.1
    have kd3 := kd.2.2.1
    have kd4 := kd.2.2.2
    have kt := ks_car3 i (by omega)
    have kt1 := kt.1
    have kt2 := kt.2.1
    have kt3 := kt.2.2.1
    have kt4 := kt.2.2.2
    refine kv_iload_n dX7_copyFrom_7 rfl ?_
    refine kv_aload_n dX7_copyFrom_8 rfl ?_
    refine kw_gI dX7_copyFrom_9 fX7_77 hv (by first | rfl | assumption) rfl rfl ?_
    rw [hn]
    refine kv_icmp_ge dX7_copyFrom_12 36 (by decide) (fun h8 => ?_) (fun h8 => ?_)
    · exact absurd h8 (kn_ge hi (by omega))
    · refine kv_aload_n dX7_copyFrom_15 rfl ?_
      refine kw_gR dX7_copyFrom_16 fX7_11 hv (by first | rfl | assumption) rfl rfl (by first | rfl | assumption) ?_
      refine kv_iload_n dX7_copyFrom_19 rfl ?_
      refine kw_al (t := 0) (n := 30) dX7_copyFrom_20 hv rfl rfl (i) rfl (by omega) rfl (by first | rfl | assumption) ?_
      refine kv_aload_n dX7_copyFrom_21 rfl ?_
      refine kw_gR dX7_copyFrom_22 fX7_11 hv (by first | rfl | assumption) rfl rfl (by first | rfl | assumption) ?_
      refine kv_iload_n dX7_copyFrom_25 rfl ?_
      refine kw_al (t := 0) (n := 30) dX7_copyFrom_26 hv rfl rfl (i) rfl (by omega) rfl (by first | rfl | assumption) ?_
      refine kw_VQ [_] mX0_copyFrom dX7_copyFrom_27 lX7_80 wX0_copyFrom kC0 hv rfl (by first | rfl | assumption) rfl rfl rfl (qX0_copyFrom_R hv i (by omega)) (by decide) (fun _ v2 q2 => ?_)
      obtain ⟨rfl, w2, z0, z1, f2⟩ := q2
      have hc2 : kCp 1 193 u v2 (kZc (i + 1) (0) (0) (0) 0) := by
        refine kCp.upd (o1 := 12 + 2 * i) (o2 := 12 + 2 * i + 1) (S := fun o k => (o = 12 + 2 * i ∧ (k = 0 ∨ k = 1 ∨ k = 2 ∨ k = 3 ∨ k = 4)) ∨ (o = 12 + 2 * i + 1 ∧ (k < 3))) hc (by omega) w2 (by omega) (fun b k q => f2 b k q) (fun o k h1 h2 hk => ?_) ?_
        · rcases hk with ⟨rfl, hk⟩ | ⟨rfl, hk⟩
          · exact z0 k hk
          · exact z1 k hk
        · rintro o k (z | z | z | z | z | z)
          · exact Or.inl ⟨(Or.inl z), by unfold kZc0 at z; omega⟩
          · by_cases y : 12 + 2 * i ≤ o ∧ o ≤ 12 + 2 * i + 1
            · exact Or.inr ⟨y.1, y.2, by unfold kZc1 at z; omega⟩
            · exact Or.inl ⟨(Or.inr (Or.inl (by unfold kZc1 at *; omega))), y⟩
          · exact Or.inl ⟨(Or.inr (Or.inr (Or.inl z))), by unfold kZc2 at z; omega⟩
          · exact Or.inl ⟨(Or.inr (Or.inr (Or.inr (Or.inl z)))), by unfold kZc3 at z; omega⟩
          · exact Or.inl ⟨(Or.inr (Or.inr (Or.inr (Or.inr (Or.inl z))))), by unfold kZc4 at z; omega⟩
          · exact Or.inl ⟨(Or.inr (Or.inr (Or.inr (Or.inr (Or.inr z))))), by unfold kZc5 at z; omega⟩
      refine kv_iinc (ls2 := [_, _, _]) dX7_copyFrom_30 (nI (i + 1)) rfl (kv_inc1 i) rfl rfl rfl rfl ?_
      refine kv_goto dX7_copyFrom_33 7 (by decide) ?_
      exact KV.loc (ih _ hc2) (ksS rfl (ksS rfl (ksS rfl ksN)))

