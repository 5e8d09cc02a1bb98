/-! READING A TEXT: what both readers come to -/
def kpRun (P : Int32 → Bool) (B : Nat → Int32) : Nat → Nat → Nat
  | 0, p => p
  | m + 1, p => if P (B p) = true then kpRun P B m (p + 1) else p
theorem kpRun_s (P : Int32 → Bool) (B : Nat → Int32) : ∀ m p, p ≤ kpRun P B m p ∧ kpRun P B m p ≤ p + m ∧ (∀ j, p ≤ j → j < kpRun P B m p → P (B j) = true) ∧ (kpRun P B m p < p + m → P (B (kpRun P B m p)) = false)
  | 0, p => ⟨Nat.le_refl _, Nat.le_refl _, fun j h1 h2 => absurd h2 (by show ¬ j < p; omega), fun h => absurd h (by show ¬ p < p + 0; omega)⟩
  | m + 1, p => by
    unfold kpRun
    by_cases q : P (B p) = true
    · rw [if_pos q]
      obtain ⟨h1, h2, h3, h4⟩ := kpRun_s P B m (p + 1)
      refine ⟨by omega, by omega, fun j g1 g2 => ?_, fun h => h4 (by omega)⟩
      by_cases e : j = p
      · rw [e]; exact q
      · exact h3 j (by omega) g2
    · rw [if_neg q]
      exact ⟨Nat.le_refl _, by omega, fun j g1 g2 => absurd g2 (by omega), fun _ => Bool.eq_false_iff.mpr q⟩
theorem kpRun_u {P : Int32 → Bool} {B : Nat → Int32} {m p e : Nat} (h1 : p ≤ e) (h2 : e ≤ p + m) (h3 : ∀ j, p ≤ j → j < e → P (B j) = true) (h4 : e < p + m → P (B e) = false) : kpRun P B m p = e := by
  obtain ⟨g1, g2, g3, g4⟩ := kpRun_s P B m p
  rcases Nat.lt_trichotomy (kpRun P B m p) e with q | q | q
  · have := h3 _ g1 q
    rw [g4 (by omega)] at this
    exact absurd this (by decide)
  · exact q
  · have := g3 e h1 q
    rw [h4 (by omega)] at this
    exact absurd this (by decide)
def kpSp (x : Int32) : Bool := decide (x = 32)
def kpDg (x : Int32) : Bool := decide (48 ≤ x ∧ x ≤ 57)
def kpLr (x : Int32) : Bool := decide (97 ≤ x ∧ x ≤ 122)
def kpSk (B : Nat → Int32) (n p : Nat) : Nat := kpRun kpSp B (n - p) p
def kpTe (B : Nat → Int32) (n p : Nat) : Nat := if p < n then (if kpDg (B p) = true then kpRun kpDg B (n - p) p else if kpLr (B p) = true then kpRun kpLr B (n - p) p else p + 1) else p
def kpNx (B : Nat → Int32) (n p : Nat) : Nat := kpSk B n (kpTe B n p)
/-- what stands at p: -1 the end, -2 a number, -3 a word, or the sign itself -/
def kpWo (B : Nat → Int32) (n p : Nat) : Int32 := if p < n then (if kpDg (B p) = true then -2 else if kpLr (B p) = true then -3 else B p) else -1
theorem kpSk_le {B : Nat → Int32} {n p : Nat} (h : p ≤ n) : p ≤ kpSk B n p ∧ kpSk B n p ≤ n := by
  obtain ⟨g1, g2, -, -⟩ := kpRun_s kpSp B (n - p) p
  unfold kpSk
  omega
theorem kpTe_lt {B : Nat → Int32} {n p : Nat} (h : p < n) : p < kpTe B n p ∧ kpTe B n p ≤ n := by
  unfold kpTe
  rw [if_pos h]
  have step : ∀ P : Int32 → Bool, P (B p) = true → p < kpRun P B (n - p) p ∧ kpRun P B (n - p) p ≤ n := fun P q => by
    obtain ⟨g1, g2, g3, g4⟩ := kpRun_s P B (n - p) p
    refine ⟨?_, by omega⟩
    rcases Nat.lt_or_ge p (kpRun P B (n - p) p) with z | z
    · exact z
    · have e : kpRun P B (n - p) p = p := by omega
      rw [e] at g4
      rw [g4 (by omega)] at q
      exact absurd q (by decide)
  by_cases q : kpDg (B p) = true
  · rw [if_pos q]; exact step _ q
  · rw [if_neg q]
    by_cases r : kpLr (B p) = true
    · rw [if_pos r]; exact step _ r
    · rw [if_neg r]; omega
theorem kpTe_ge {B : Nat → Int32} {n p : Nat} (h : ¬ p < n) : kpTe B n p = p := by unfold kpTe; rw [if_neg h]
theorem kpTe_le {B : Nat → Int32} {n p : Nat} (h : p ≤ n) : p ≤ kpTe B n p ∧ kpTe B n p ≤ n := by
  by_cases q : p < n
  · have := kpTe_lt (B := B) q; omega
  · rw [kpTe_ge q]; omega
theorem kpNx_le {B : Nat → Int32} {n p : Nat} (h : p ≤ n) : p ≤ kpNx B n p ∧ kpNx B n p ≤ n := by
  have h1 := kpTe_le (B := B) h
  have h2 := kpSk_le (B := B) h1.2
  unfold kpNx
  omega
theorem kpNx_lt {B : Nat → Int32} {n p : Nat} (h : p < n) : p < kpNx B n p ∧ kpNx B n p ≤ n := by
  have h1 := kpTe_lt (B := B) h
  have h2 := kpSk_le (B := B) h1.2
  unfold kpNx
  omega
theorem kpWo_lt {B : Nat → Int32} {n p : Nat} (h : ¬ kpWo B n p = -1) : p < n := Decidable.byContradiction fun q => h (by unfold kpWo; rw [if_neg q])
/-- a sign -/
def kpSn (c : Int32) : Prop := kpDg c = false ∧ kpLr c = false ∧ ¬ c = -1 ∧ ¬ c = -2 ∧ ¬ c = -3
theorem kpWo_is {B : Nat → Int32} {n p : Nat} {c : Int32} (hc : kpSn c) : kpWo B n p = c ↔ p < n ∧ B p = c := by
  obtain ⟨c1, c2, c3, c4, c5⟩ := hc
  unfold kpWo
  by_cases h : p < n
  · rw [if_pos h]
    by_cases q : kpDg (B p) = true
    · rw [if_pos q]
      exact ⟨fun z => absurd z.symm c4, fun z => by rw [z.2, c1] at q; exact absurd q (by decide)⟩
    · rw [if_neg q]
      by_cases r : kpLr (B p) = true
      · rw [if_pos r]
        exact ⟨fun z => absurd z.symm c5, fun z => by rw [z.2, c2] at r; exact absurd r (by decide)⟩
      · rw [if_neg r]
        exact ⟨fun z => ⟨h, z⟩, fun z => z.2⟩
  · rw [if_neg h]
    exact ⟨fun z => absurd z.symm c3, fun z => absurd z.1 h⟩
theorem kpTe_is {B : Nat → Int32} {n p : Nat} {c : Int32} (hc : kpSn c) (h : p < n) (e : B p = c) : kpTe B n p = p + 1 := by
  unfold kpTe
  rw [if_pos h, e, hc.1, hc.2.1]
  rfl
theorem kpWo_1 {B : Nat → Int32} {n p : Nat} {c : Int32} (hc : kpSn c) : kpWo B n p = c ↔ kpTe B n p - p = 1 ∧ B p = c := by
  rw [kpWo_is hc]
  constructor
  · rintro ⟨h, e⟩
    exact ⟨by rw [kpTe_is hc h e]; omega, e⟩
  · rintro ⟨h, e⟩
    refine ⟨Decidable.byContradiction fun q => ?_, e⟩
    rw [kpTe_ge q] at h
    omega
abbrev KPs := Nat × List Int32
abbrev KPt := Except Nat KPs
def kpBd (r : KPt) (f : KPs → KPt) : KPt := match r with
  | .error e => .error e
  | .ok s => f s
def kpPu (c : Int32) (s : KPs) : KPt := .ok (s.1, s.2 ++ [c])
def kpLv (x : Int32) : Int32 := if x = 124 then 0 else if x = 38 then 1 else if x = 60 ∨ x = 61 ∨ x = 62 then 2 else if x = 43 ∨ x = 45 then 3 else if x = 42 ∨ x = 47 then 4 else -1
def kpSg (x : Int32) : Int32 := if x = 124 then 20000 else if x = 38 then 20001 else if x = 60 then 20002 else if x = 61 then 20003 else if x = 62 then 20004 else if x = 43 then 20005 else if x = 45 then 20006 else if x = 42 then 20007 else 20008
def kpEx (B : Nat → Int32) (n : Nat) (c : Int32) (op : Nat) (s : KPs) : KPt := if kpWo B n s.1 = c ∧ op < 5 then .ok (kpNx B n s.1, s.2) else .error s.1
def kpLp (B : Nat → Int32) (n : Nat) (f : KPs → KPt) (lev : Nat) : Nat → KPs → KPt
  | 0, s => .ok s
  | m + 1, s => if kpLv (kpWo B n s.1) = nI lev then kpBd (kpBd (f (kpNx B n s.1, s.2)) (kpPu (kpSg (kpWo B n s.1)))) (kpLp B n f lev m) else .ok s
def kpVl (B : Nat → Int32) (p : Nat) : Nat → Int32
  | 0 => 0
  | j + 1 => kpVl B p j * 10 + B (p + j) - 48
def kpNm (use : Nat) (x : Int32) : Int32 :=
  if use = 0 then (if x = 108 then 10000 else if x = 109 then 10001 else if x = 110 then 10002 else if x = 118 then 10003 else -1)
  else if use = 1 then (if x = 114 then 10000 else if x = 101 then 10001 else if x = 99 then 10002 else -1)
  else (if x = 99 then 10000 else if x = 107 then 10001 else if x = 98 then 10002 else -1)
abbrev kpW3 (B : Nat → Int32) (n p : Nat) (a b c : Int32) : Prop := kpTe B n p - p = 3 ∧ B p = a ∧ B (p + 1) = b ∧ B (p + 2) = c
def kpMM (B : Nat → Int32) (n : Nat) (R : Nat → Nat → KPs → KPt) (op : Nat) (c : Int32) (s : KPs) : KPt :=
  kpBd (kpBd (kpBd (kpBd (kpBd (kpEx B n 40 op (kpNx B n s.1, s.2)) (R 0 (op + 1))) (kpEx B n 44 0)) (R 0 (op + 1))) (kpEx B n 41 0)) (kpPu c)
def kpNu (B : Nat → Int32) (n : Nat) (s : KPs) : KPt := if 4 < kpTe B n s.1 - s.1 then .error s.1 else .ok (kpNx B n s.1, s.2 ++ [kpVl B s.1 (kpTe B n s.1 - s.1)])
def kpNa (B : Nat → Int32) (n use : Nat) (s : KPs) : KPt := if kpTe B n s.1 - s.1 = 1 ∧ ¬ kpNm use (B s.1) = -1 then .ok (kpNx B n s.1, s.2 ++ [kpNm use (B s.1)]) else .error s.1
def kpNd (B : Nat → Int32) (n use : Nat) (R : Nat → Nat → KPs → KPt) (op : Nat) (s : KPs) : KPt :=
  if kpW3 B n s.1 109 97 120 then kpMM B n R op 20009 s else if kpW3 B n s.1 109 105 110 then kpMM B n R op 20010 s else kpNa B n use s
def kpSd (B : Nat → Int32) (n : Nat) (R : Nat → Nat → KPs → KPt) (op : Nat) (s : KPs) : KPt :=
  if op < 5 then kpBd (R 5 (op + 1) (kpNx B n s.1, s.2)) (kpPu (if kpWo B n s.1 = 33 then 20011 else 20012)) else .error s.1
def kpOn (B : Nat → Int32) (n use : Nat) (R : Nat → Nat → KPs → KPt) (op : Nat) (s : KPs) : KPt :=
  if kpWo B n s.1 = -2 then kpNu B n s
  else if kpWo B n s.1 = -3 then kpNd B n use R op s
  else if kpWo B n s.1 = 33 ∨ kpWo B n s.1 = 45 then kpSd B n R op s
  else kpBd (kpBd (kpEx B n 40 op s) (R 0 (op + 1))) (kpEx B n 41 0)
def kpPr (B : Nat → Int32) (n use : Nat) : Nat → Nat → Nat → KPs → KPt
  | 0, _, _, s => .error s.1
  | D + 1, lev, op, s => if lev < 5 then kpBd (kpPr B n use D (lev + 1) op s) (kpLp B n (kpPr B n use D (lev + 1) op) lev (if lev = 2 then 1 else 60)) else kpOn B n use (kpPr B n use D) op s
/-! what a good reading has: it goes on, its codes are no more than its bytes, and it leaves one more on the pile -/
def kpDpl (cs : List Int32) : Option Nat := kDep (fun k => cs.getD k 0) cs.length
theorem kpDpl_app (cs : List Int32) (c : Int32) : kpDpl (cs ++ [c]) = match kpDpl cs with
    | none => none
    | some d => if 0 ≤ c ∧ c < 10004 then some (d + 1) else if c = 20011 ∨ c = 20012 then (if 1 ≤ d then some d else none) else if 20000 ≤ c ∧ c < 20011 then (if 2 ≤ d then some (d - 1) else none) else none := by
  unfold kpDpl
  rw [List.length_append, List.length_singleton, kDep]
  have e : kDep (fun k => (cs ++ [c]).getD k 0) cs.length = kDep (fun k => cs.getD k 0) cs.length := kDep_c (fun k hk => by
    show (cs ++ [c]).getD k 0 = cs.getD k 0
    rw [List.getD_eq_getElem?_getD, List.getD_eq_getElem?_getD, List.getElem?_append_left hk])
  have e2 : (cs ++ [c]).getD cs.length 0 = c := by
    rw [List.getD_eq_getElem?_getD, List.getElem?_append_right (Nat.le_refl _), Nat.sub_self]
    rfl
  rw [e, e2]
  cases kDep (fun k => cs.getD k 0) cs.length <;> rfl
theorem kpDpl_v {cs : List Int32} {c : Int32} {d : Nat} (h : kpDpl cs = some d) (hc : 0 ≤ c ∧ c < 10004) : kpDpl (cs ++ [c]) = some (d + 1) := by rw [kpDpl_app, h]; exact if_pos hc
theorem kpDpl_1 {cs : List Int32} {c : Int32} {d : Nat} (h : kpDpl cs = some (d + 1)) (hc : c = 20011 ∨ c = 20012) : kpDpl (cs ++ [c]) = some (d + 1) := by
  rw [kpDpl_app, h]
  show (if 0 ≤ c ∧ c < 10004 then _ else _) = _
  rw [if_neg (fun q => by rcases hc with e | e <;> · rw [e] at q; exact absurd q (by decide)), if_pos hc, if_pos (by omega)]
theorem kpDpl_2 {cs : List Int32} {c : Int32} {d : Nat} (h : kpDpl cs = some (d + 2)) (hc : 20000 ≤ c ∧ c < 20011) : kpDpl (cs ++ [c]) = some (d + 1) := by
  rw [kpDpl_app, h]
  have g1 : ¬ (0 ≤ c ∧ c < 10004) := fun q => absurd (Int32.lt_of_le_of_lt hc.1 q.2) (by decide)
  have g2 : ¬ (c = 20011 ∨ c = 20012) := fun q => by
    rcases q with e | e
    · rw [e] at hc; exact absurd hc.2 (by decide)
    · rw [e] at hc; exact absurd hc.2 (by decide)
  show (if 0 ≤ c ∧ c < 10004 then _ else _) = _
  rw [if_neg g1, if_neg g2, if_pos hc, if_pos (by omega)]
  rfl
/-- from s to t, k more on the pile -/
def kpGd (n k : Nat) (s t : KPs) : Prop := s.1 ≤ t.1 ∧ t.1 ≤ n ∧ t.2.length + s.1 ≤ t.1 + s.2.length ∧ ∀ d, kpDpl s.2 = some d → kpDpl t.2 = some (d + k)
theorem kpGd.rf {n : Nat} {s : KPs} (h : s.1 ≤ n) : kpGd n 0 s s := ⟨Nat.le_refl _, h, by omega, fun _ q => q⟩
theorem kpGd.tr {n k j : Nat} {s t r : KPs} (h1 : kpGd n k s t) (h2 : kpGd n j t r) : kpGd n (k + j) s r := ⟨Nat.le_trans h1.1 h2.1, h2.2.1, by have := h1.2.2.1; have := h2.2.2.1; omega, fun d q => by rw [h2.2.2.2 _ (h1.2.2.2 d q), Nat.add_assoc]⟩
theorem kpBd_ok {r : KPt} {f : KPs → KPt} {t : KPs} (h : kpBd r f = .ok t) : ∃ s, r = .ok s ∧ f s = .ok t := by
  cases r with
  | error e => exact absurd h (by simp [kpBd])
  | ok s => exact ⟨s, rfl, h⟩
theorem kpEx_ok {B : Nat → Int32} {n op : Nat} {c : Int32} {s t : KPs} (hc : ¬ c = -1) (h : kpEx B n c op s = .ok t) : s.1 < n ∧ t = (kpNx B n s.1, s.2) ∧ op < 5 ∧ kpWo B n s.1 = c := by
  unfold kpEx at h
  by_cases q : kpWo B n s.1 = c ∧ op < 5
  · rw [if_pos q] at h
    injection h with h
    exact ⟨kpWo_lt (fun z => hc (q.1.symm.trans z)), h.symm, q.2, q.1⟩
  · rw [if_neg q] at h
    exact absurd h (by simp)
theorem kpLv_ne {x : Int32} {lev : Nat} (hl : lev < 5) (h : kpLv x = nI lev) : kpSn x ∧ 20000 ≤ kpSg x ∧ kpSg x < 20009 ∧ kEnc (kpSg x) = -1000 - x := by
  have key : x = 124 ∨ x = 38 ∨ x = 60 ∨ x = 61 ∨ x = 62 ∨ x = 43 ∨ x = 45 ∨ x = 42 ∨ x = 47 := by
    unfold kpLv at h
    by_cases a1 : x = 124
    · exact Or.inl a1
    by_cases a2 : x = 38
    · exact Or.inr (Or.inl a2)
    by_cases a3 : x = 60 ∨ x = 61 ∨ x = 62
    · rcases a3 with a | a | a
      · exact Or.inr (Or.inr (Or.inl a))
      · exact Or.inr (Or.inr (Or.inr (Or.inl a)))
      · exact Or.inr (Or.inr (Or.inr (Or.inr (Or.inl a))))
    by_cases a4 : x = 43 ∨ x = 45
    · rcases a4 with a | a
      · exact Or.inr (Or.inr (Or.inr (Or.inr (Or.inr (Or.inl a)))))
      · exact Or.inr (Or.inr (Or.inr (Or.inr (Or.inr (Or.inr (Or.inl a))))))
    by_cases a5 : x = 42 ∨ x = 47
    · rcases a5 with a | a
      · exact Or.inr (Or.inr (Or.inr (Or.inr (Or.inr (Or.inr (Or.inr (Or.inl a)))))))
      · exact Or.inr (Or.inr (Or.inr (Or.inr (Or.inr (Or.inr (Or.inr (Or.inr a)))))))
    rw [if_neg a1, if_neg a2, if_neg a3, if_neg a4, if_neg a5] at h
    have : ∀ m, m < 5 → ¬ (-1 : Int32) = nI m := by decide
    exact absurd h (this lev hl)
  unfold kpSn
  rcases key with rfl | rfl | rfl | rfl | rfl | rfl | rfl | rfl | rfl <;> decide
theorem kpVl_b {B : Nat → Int32} {p : Nat} : ∀ j, j ≤ 8 → (∀ i, i < j → kpDg (B (p + i)) = true) → ∃ m, m < 10 ^ j ∧ kpVl B p j = nI m
  | 0, _, _ => ⟨0, by decide, rfl⟩
  | j + 1, hj, h => by
    obtain ⟨m, hm, e⟩ := kpVl_b j (by omega) (fun i hi => h i (by omega))
    have hd := of_decide_eq_true (h j (by omega))
    obtain ⟨x, hx, ex⟩ := nI_of (x := B (p + j)) (fun q => absurd (Int32.lt_of_le_of_lt hd.1 q) (by decide))
    rw [ex] at hd
    have h1 : 48 ≤ x := (nI_leI (a := 48) (by omega) hx).mp hd.1
    have h2 : x ≤ 57 := (nI_leI (b := 57) hx (by omega)).mp hd.2
    have h10 : 10 ^ j ≤ 10 ^ 7 := Nat.pow_le_pow_right (by decide) (by omega)
    refine ⟨m * 10 + x - 48, by rw [Nat.pow_succ]; omega, ?_⟩
    unfold kpVl
    rw [e, ex]
    exact kn_sub (kn_add (kn_mul rfl (show (10 : Int32) = nI 10 from rfl)) rfl) (show (48 : Int32) = nI 48 from rfl) (by omega)
theorem kpWo_dg {B : Nat → Int32} {n p : Nat} (hB : ∀ i, i < n → kUp (B i) 255) (h : kpWo B n p = -2) : p < n ∧ kpDg (B p) = true := by
  have hp : p < n := kpWo_lt (by rw [h]; decide)
  refine ⟨hp, Decidable.byContradiction fun q => ?_⟩
  obtain ⟨j, hj, e⟩ := hB p hp
  unfold kpWo at h
  rw [if_pos hp, if_neg q] at h
  by_cases r : kpLr (B p) = true
  · rw [if_pos r] at h; exact absurd h (by decide)
  · rw [if_neg r, e] at h
    exact absurd (show nI j < 0 by rw [h]; decide) (nI_pos (by omega))
theorem kpWo_lr {B : Nat → Int32} {n p : Nat} (hB : ∀ i, i < n → kUp (B i) 255) (h : kpWo B n p = -3) : p < n ∧ kpLr (B p) = true ∧ kpDg (B p) = false := by
  have hp : p < n := kpWo_lt (by rw [h]; decide)
  have hd : kpDg (B p) = false := by
    cases q : kpDg (B p)
    · rfl
    · unfold kpWo at h
      rw [if_pos hp, if_pos q] at h; exact absurd h (by decide)
  refine ⟨hp, Decidable.byContradiction fun q => ?_, hd⟩
  obtain ⟨j, hj, e⟩ := hB p hp
  unfold kpWo at h
  rw [if_pos hp, if_neg (by rw [hd]; decide), if_neg q, e] at h
  exact absurd (show nI j < 0 by rw [h]; decide) (nI_pos (by omega))
theorem kpWo_end {B : Nat → Int32} {n p : Nat} (hB : ∀ i, i < n → kUp (B i) 255) : kpWo B n p = -1 ↔ ¬ p < n := by
  constructor
  · intro h hp
    obtain ⟨j, hj, e⟩ := hB p hp
    unfold kpWo at h
    rw [if_pos hp] at h
    by_cases q : kpDg (B p) = true
    · rw [if_pos q] at h; exact absurd h (by decide)
    · rw [if_neg q] at h
      by_cases r : kpLr (B p) = true
      · rw [if_pos r] at h; exact absurd h (by decide)
      · rw [if_neg r, e] at h
        exact absurd (show nI j < 0 by rw [h]; decide) (nI_pos (by omega))
  · intro h
    unfold kpWo
    rw [if_neg h]
theorem kpTe_dg {B : Nat → Int32} {n p : Nat} (hp : p < n) (hd : kpDg (B p) = true) : ∀ i, i < kpTe B n p - p → kpDg (B (p + i)) = true := fun i hi => by
  have e : kpTe B n p = kpRun kpDg B (n - p) p := by unfold kpTe; rw [if_pos hp, if_pos hd]
  rw [e] at hi
  exact (kpRun_s kpDg B (n - p) p).2.2.1 _ (by omega) (by omega)
def kpLd (n : Nat) (s t : KPs) : Prop := s.1 ≤ t.1 ∧ t.1 ≤ n ∧ t.2.length + s.1 ≤ t.1 + s.2.length ∧ ∀ d, kpDpl s.2 = some (d + 1) → kpDpl t.2 = some (d + 1)
theorem kpLp_gd {B : Nat → Int32} {n lev : Nat} {f : KPs → KPt} (hl : lev < 5) (hf : ∀ s t, s.1 ≤ n → f s = .ok t → kpGd n 1 s t) : ∀ m s t, s.1 ≤ n → kpLp B n f lev m s = .ok t → kpLd n s t
  | 0, s, t, hs, h => by
    unfold kpLp at h
    injection h with h
    subst h
    exact ⟨Nat.le_refl _, hs, by omega, fun _ q => q⟩
  | m + 1, s, t, hs, h => by
    unfold kpLp at h
    by_cases q : kpLv (kpWo B n s.1) = nI lev
    · rw [if_pos q] at h
      obtain ⟨k1, k2, k3, -⟩ := kpLv_ne hl q
      have hp := kpWo_lt (B := B) k1.2.2.1
      have hx := kpNx_lt (B := B) hp
      obtain ⟨s2, h1, h2⟩ := kpBd_ok h
      obtain ⟨s1, h3, h4⟩ := kpBd_ok h1
      have g1 := hf _ _ (show (kpNx B n s.1, s.2).1 ≤ n from hx.2) h3
      unfold kpPu at h4
      injection h4 with h4
      subst h4
      have g2 := kpLp_gd hl hf m _ _ (show (s1.1, s1.2 ++ [kpSg (kpWo B n s.1)]).1 ≤ n from g1.2.1) h2
      have a1 : kpNx B n s.1 ≤ s1.1 := g1.1
      have a2 : s1.2.length + kpNx B n s.1 ≤ s1.1 + s.2.length := g1.2.2.1
      have a3 : s1.1 ≤ t.1 := g2.1
      have a4 : t.2.length + s1.1 ≤ t.1 + (s1.2 ++ [kpSg (kpWo B n s.1)]).length := g2.2.2.1
      rw [List.length_append, List.length_singleton] at a4
      refine ⟨by omega, g2.2.1, by omega, fun d e => ?_⟩
      exact g2.2.2.2 d (kpDpl_2 (g1.2.2.2 (d + 1) e) ⟨k2, Int32.lt_trans k3 (by decide)⟩)
    · rw [if_neg q] at h
      injection h with h
      subst h
      exact ⟨Nat.le_refl _, hs, by omega, fun _ q => q⟩
theorem kpEx_gd {B : Nat → Int32} {n op : Nat} {c : Int32} {s t : KPs} (hc : ¬ c = -1) (h : kpEx B n c op s = .ok t) : s.1 < t.1 ∧ t.1 ≤ n ∧ t.2 = s.2 := by
  obtain ⟨h1, rfl, -, -⟩ := kpEx_ok hc h
  have := kpNx_lt (B := B) h1
  exact ⟨this.1, this.2, rfl⟩
theorem kpMM_gd {B : Nat → Int32} {n op : Nat} {c : Int32} {R : Nat → Nat → KPs → KPt} (hR : ∀ o s t, s.1 ≤ n → R 0 o s = .ok t → kpGd n 1 s t) {s t : KPs} (hp : s.1 < n) (hc : 20000 ≤ c ∧ c < 20011) (h : kpMM B n R op c s = .ok t) : kpGd n 1 s t := by
  unfold kpMM at h
  obtain ⟨s5, h, e6⟩ := kpBd_ok h
  obtain ⟨s4, h, e5⟩ := kpBd_ok h
  obtain ⟨s3, h, e4⟩ := kpBd_ok h
  obtain ⟨s2, h, e3⟩ := kpBd_ok h
  obtain ⟨s1, e1, e2⟩ := kpBd_ok h
  have hx := kpNx_lt (B := B) hp
  obtain ⟨a1, a2, a3⟩ := kpEx_gd (by decide) e1
  obtain ⟨b1, b2, b3, b4⟩ := hR _ _ _ a2 e2
  obtain ⟨c1, c2, c3⟩ := kpEx_gd (by decide) e3
  obtain ⟨d1, d2, d3, d4⟩ := hR _ _ _ c2 e4
  obtain ⟨f1, f2, f3⟩ := kpEx_gd (by decide) e5
  unfold kpPu at e6
  injection e6 with e6
  subst e6
  have a1' : kpNx B n s.1 < s1.1 := a1
  have a3' : s1.2 = s.2 := a3
  rw [a3'] at b3 b4
  rw [c3] at d3 d4
  refine ⟨by show s.1 ≤ s5.1; omega, f2, ?_, fun d q => ?_⟩
  · show (s5.2 ++ [c]).length + s.1 ≤ s5.1 + s.2.length
    rw [List.length_append, List.length_singleton, f3]
    omega
  · show kpDpl (s5.2 ++ [c]) = some (d + 1)
    rw [f3]
    exact kpDpl_2 (d4 _ (b4 _ q)) hc
theorem kpNm_v (use : Nat) (x : Int32) : kpNm use x = -1 ∨ (0 ≤ kpNm use x ∧ kpNm use x < 10004 ∧ 10000 ≤ kpNm use x) := by
  unfold kpNm
  repeat' split
  all_goals first | exact Or.inl rfl | exact Or.inr (by decide)
theorem kpOn_gd {B : Nat → Int32} {n use op : Nat} (hB : ∀ i, i < n → kUp (B i) 255) {R : Nat → Nat → KPs → KPt} (hR : ∀ lv o s t, s.1 ≤ n → R lv o s = .ok t → kpGd n 1 s t) {s t : KPs} (hs : s.1 ≤ n) (h : kpOn B n use R op s = .ok t) : kpGd n 1 s t := by
  unfold kpOn at h
  by_cases w1 : kpWo B n s.1 = -2
  · rw [if_pos w1] at h
    obtain ⟨hp, hd⟩ := kpWo_dg hB w1
    have hx := kpNx_lt (B := B) hp
    unfold kpNu at h
    by_cases q : 4 < kpTe B n s.1 - s.1
    · rw [if_pos q] at h; exact absurd h (by simp)
    · rw [if_neg q] at h
      injection h with h
      subst h
      obtain ⟨m, hm, em⟩ := kpVl_b (B := B) (p := s.1) _ (by omega) (kpTe_dg hp hd)
      have h4 : 10 ^ (kpTe B n s.1 - s.1) ≤ 10 ^ 4 := Nat.pow_le_pow_right (by decide) (by omega)
      refine ⟨by show s.1 ≤ kpNx B n s.1; omega, hx.2, ?_, fun d e => ?_⟩
      · show (s.2 ++ [_]).length + s.1 ≤ kpNx B n s.1 + s.2.length
        rw [List.length_append, List.length_singleton]; omega
      · refine kpDpl_v e ?_
        rw [em]
        exact ⟨nI_le (a := 0) (by omega) (by omega), nI_lt (b := 10004) (by omega) (by omega)⟩
  rw [if_neg w1] at h
  by_cases w2 : kpWo B n s.1 = -3
  · rw [if_pos w2] at h
    have hp := (kpWo_lr hB w2).1
    have hx := kpNx_lt (B := B) hp
    unfold kpNd at h
    by_cases m1 : kpW3 B n s.1 109 97 120
    · rw [if_pos m1] at h; exact kpMM_gd (hR 0) hp (by decide) h
    rw [if_neg m1] at h
    by_cases m2 : kpW3 B n s.1 109 105 110
    · rw [if_pos m2] at h; exact kpMM_gd (hR 0) hp (by decide) h
    rw [if_neg m2] at h
    unfold kpNa at h
    by_cases q : kpTe B n s.1 - s.1 = 1 ∧ ¬ kpNm use (B s.1) = -1
    · rw [if_pos q] at h
      injection h with h
      subst h
      refine ⟨by show s.1 ≤ kpNx B n s.1; omega, hx.2, ?_, fun d e => ?_⟩
      · show (s.2 ++ [_]).length + s.1 ≤ kpNx B n s.1 + s.2.length
        rw [List.length_append, List.length_singleton]; omega
      · rcases kpNm_v use (B s.1) with z | z
        · exact absurd z q.2
        · exact kpDpl_v e ⟨z.1, z.2.1⟩
    · rw [if_neg q] at h; exact absurd h (by simp)
  rw [if_neg w2] at h
  by_cases w3 : kpWo B n s.1 = 33 ∨ kpWo B n s.1 = 45
  · rw [if_pos w3] at h
    have hp : s.1 < n := kpWo_lt (fun z => by rw [z] at w3; exact absurd w3 (by decide))
    have hx := kpNx_lt (B := B) hp
    unfold kpSd at h
    by_cases q : op < 5
    · rw [if_pos q] at h
      obtain ⟨s1, e1, e2⟩ := kpBd_ok h
      obtain ⟨b1, b2, b3, b4⟩ := hR _ _ _ _ (show (kpNx B n s.1, s.2).1 ≤ n from hx.2) e1
      have b1' : kpNx B n s.1 ≤ s1.1 := b1
      have b3' : s1.2.length + kpNx B n s.1 ≤ s1.1 + s.2.length := b3
      unfold kpPu at e2
      injection e2 with e2
      subst e2
      refine ⟨by show s.1 ≤ s1.1; omega, b2, ?_, fun d e => ?_⟩
      · show (s1.2 ++ [_]).length + s.1 ≤ s1.1 + s.2.length
        rw [List.length_append, List.length_singleton]; omega
      · refine kpDpl_1 (b4 d e) ?_
        by_cases z : kpWo B n s.1 = 33
        · rw [if_pos z]; exact Or.inl rfl
        · rw [if_neg z]; exact Or.inr rfl
    · rw [if_neg q] at h; exact absurd h (by simp)
  rw [if_neg w3] at h
  obtain ⟨s2, h, e3⟩ := kpBd_ok h
  obtain ⟨s1, e1, e2⟩ := kpBd_ok h
  obtain ⟨a1, a2, a3⟩ := kpEx_gd (by decide) e1
  obtain ⟨b1, b2, b3, b4⟩ := hR _ _ _ _ a2 e2
  obtain ⟨c1, c2, c3⟩ := kpEx_gd (by decide) e3
  rw [a3] at b3 b4
  refine ⟨by omega, c2, by rw [c3]; omega, fun d e => by rw [c3]; exact b4 d e⟩
theorem kpPr_gd {B : Nat → Int32} {n use : Nat} (hB : ∀ i, i < n → kUp (B i) 255) : ∀ D lev op s t, s.1 ≤ n → kpPr B n use D lev op s = .ok t → kpGd n 1 s t
  | 0, lev, op, s, t, hs, h => by unfold kpPr at h; exact absurd h (by simp)
  | D + 1, lev, op, s, t, hs, h => by
    unfold kpPr at h
    by_cases q : lev < 5
    · rw [if_pos q] at h
      obtain ⟨s1, e1, e2⟩ := kpBd_ok h
      have g1 := kpPr_gd hB D _ _ _ _ hs e1
      have g2 := kpLp_gd q (fun s t hs h => kpPr_gd hB D _ _ s t hs h) _ _ _ g1.2.1 e2
      exact ⟨Nat.le_trans g1.1 g2.1, g2.2.1, by have := g1.2.2.1; have := g2.2.2.1; omega, fun d e => g2.2.2.2 d (g1.2.2.2 d e)⟩
    · rw [if_neg q] at h
      exact kpOn_gd hB (fun lv o s t hs h => kpPr_gd hB D lv o s t hs h) hs h
