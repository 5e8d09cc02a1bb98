theorem gX12_is {w : KW} {l : Launch} {u : KMem} (hu : kWd u) {g : Nat → Int32} (eg : u.2.1 414 = g) (p0 : Int32) (k : Nat) (hk : k < 1421) : KC w l mX12_is 1 0 0 [.ref 413, .int p0, .int (nI k)] u (kq (some (.int (if ¬ p0 < 0 ∧ ¬ g k - 1 < p0 then 1 else 0))) u) := by
  subst eg
  exact qX12_is hu p0 k hk
theorem gX12_car {w : KW} {l : Launch} {u : KMem} (hu : kWd u) {g : Nat → Int32} (eg : u.2.1 414 = g) (c f : Nat) (hc : c < 30) (hf : f < 8) : KC w l mX12_car 0 0 0 [.ref 413, .int (nI c), .int (nI f)] u (kq (some (.int (g (40 + 8 * c + f)))) u) := by
  subst eg
  exact qX12_car hu c f hc hf
theorem gX12_crash_ {w : KW} {l : Launch} {u : KMem} (hu : kWd u) {g : Nat → Int32} (eg : u.2.1 414 = g) (c f : Nat) (hc : c < 20) (hf : f < 7) : KC w l mX12_crash_ 0 0 0 [.ref 413, .int (nI c), .int (nI f)] u (kq (some (.int (g (328 + 7 * c + f)))) u) := by
  subst eg
  exact qX12_crash_ hu c f hc hf
theorem gX12_line {w : KW} {l : Launch} {u : KMem} (hu : kWd u) {g : Nat → Int32} (eg : u.2.1 414 = g) (c f : Nat) (hc : c < 40) (hf : f < 5) : KC w l mX12_line 0 0 0 [.ref 413, .int (nI c), .int (nI f)] u (kq (some (.int (g (1128 + 5 * c + f)))) u) := by
  subst eg
  exact qX12_line hu c f hc hf
theorem gX12_carOf {w : KW} {l : Launch} {u : KMem} (hu : kWd u) {g : Nat → Int32} (eg : u.2.1 414 = g) (x s : Nat) (hx : x < 20) (hs : s < 2) : KC w l mX12_carOf 1 0 0 [.ref 413, .int (nI x), .int (nI s)] u (kq (some (.int (g (328 + 7 * x + s)))) u) := by
  subst eg
  exact qX12_carOf hu x s hx hs
theorem gX12_allShapes {w : KW} {l : Launch} {u : KMem} (hu : kWd u) {g : Nat → Int32} (eg : u.2.1 414 = g)  : KC w l mX12_allShapes 0 0 0 [.ref 413] u (kq (some (.int (kAll g))) u) := by
  subst eg
  exact qX12_allShapes hu 
theorem gX12_fresh {w : KW} {l : Launch} {u : KMem} (hu : kWd u) {g : Nat → Int32} (eg : u.2.1 414 = g) (hg : kGI g) (x s : Nat) (hx : x < kN g 2) (hs : s < 2) : KC w l mX12_fresh 2 0 0 [.ref 413, .int (nI x), .int (nI s)] u (kq (some (.int (kFresh g x s))) u) := by
  subst eg
  exact qX12_fresh hu hg x s hx hs
theorem gX12_fit {w : KW} {l : Launch} {u : KMem} (hu : kWd u) {g : Nat → Int32} (eg : u.2.1 414 = g) (hg : kGI g) (x : Nat) (hx : x < kN g 2) : KC w l mX12_fit 3 0 0 [.ref 413, .int (nI x)] u (kq (some (.int (kFit g x))) u) := by
  subst eg
  exact qX12_fit hu hg x hx
theorem gX12_toldBy {w : KW} {l : Launch} {u : KMem} (hu : kWd u) {g : Nat → Int32} (eg : u.2.1 414 = g) (hg : kGI g) (x s : Nat) (hx : x < kN g 2) (hs : s < 2) : KC w l mX12_toldBy 1 0 0 [.ref 413, .int (nI x), .int (nI s)] u (kq (some (.int (kTold g x s))) u) := by
  subst eg
  exact qX12_toldBy hu hg x s hx hs
theorem gX12_left {w : KW} {l : Launch} {u : KMem} (hu : kWd u) {g : Nat → Int32} (eg : u.2.1 414 = g) (hg : kGI g) (x : Nat) (hx : x < kN g 2) : KC w l mX12_left 4 0 0 [.ref 413, .int (nI x)] u (kq (some (.int (kLeft g x))) u) := by
  subst eg
  exact qX12_left hu hg x hx
theorem gX12_end0 {w : KW} {l : Launch} {u : KMem} (hu : kWd u) {g : Nat → Int32} (eg : u.2.1 414 = g) (hg : kGI g) (left : Int32) : KC w l mX12_end 1 0 0 [.ref 413, .int left, .int 0] u (kq (some (.int (kEnd g left 0))) u) := by
  subst eg
  exact qX12_end0 hu hg left
theorem gX12_end1 {w : KW} {l : Launch} {u : KMem} (hu : kWd u) {g : Nat → Int32} (eg : u.2.1 414 = g) (hg : kGI g) (left : Int32) : KC w l mX12_end 1 0 0 [.ref 413, .int left, .int 1] u (kq (some (.int (kEnd g left 1))) u) := by
  subst eg
  exact qX12_end1 hu hg left
theorem gX12_bookOf {w : KW} {l : Launch} {u : KMem} (hu : kWd u) {g : Nat → Int32} (eg : u.2.1 414 = g) (hg : kGI g) (c : Nat) (hc : c < kN g 0) : KC w l mX12_bookOf 1 0 0 [.ref 413, .int (nI c)] u (kq (some (.int (kBook g c))) u) := by
  subst eg
  exact qX12_bookOf hu hg c hc
theorem gX12_inForce {w : KW} {l : Launch} {u : KMem} (hu : kWd u) {g : Nat → Int32} (eg : u.2.1 414 = g) (hg : kGI g) (p0 p1 : Int32) : KC w l mX12_inForce 0 0 0 [.ref 413, .int p0, .int p1] u (kq (some (.int (kInF g p0 p1 (kN g 3)))) u) := by
  subst eg
  exact qX12_inForce hu hg p0 p1
theorem gX12_zonesOf {w : KW} {l : Launch} {u : KMem} (hu : kWd u) {g : Nat → Int32} (eg : u.2.1 414 = g) (hg : kGI g) (x s : Nat) (hx : x < kN g 2) (hs : s < 2) (t : Nat) (ht : t < 3) : KC w l mX12_zonesOf 3 0 0 [.ref 413, .int (nI x), .int (nI s), .int (nI t)] u (kq (some (.int (kZn g x s t))) u) := by
  subst eg
  exact qX12_zonesOf hu hg x s hx hs t ht
theorem gX12_repair {w : KW} {l : Launch} {u : KMem} (hu : kWd u) {g : Nat → Int32} (eg : u.2.1 414 = g) (hg : kGI g) (x s : Nat) (hx : x < kN g 2) (hs : s < 2) : KC w l mX12_repair 4 0 0 [.ref 413, .int (nI x), .int (nI s)] u (kq (some (.int (kRep g x s))) u) := by
  subst eg
  exact qX12_repair hu hg x s hx hs
theorem gX12_isTotal {w : KW} {l : Launch} {u : KMem} (hu : kWd u) {g : Nat → Int32} (eg : u.2.1 414 = g) (hg : kGI g) (x s : Nat) (hx : x < kN g 2) (hs : s < 2) : KC w l mX12_isTotal 5 0 0 [.ref 413, .int (nI x), .int (nI s)] u (kq (some (.int (@ite _ (kTot g x s) (Classical.propDecidable _) 1 0))) u) := by
  subst eg
  exact qX12_isTotal hu hg x s hx hs
theorem gX12_lossOf {w : KW} {l : Launch} {u : KMem} (hu : kWd u) {g : Nat → Int32} (eg : u.2.1 414 = g) (hg : kGI g) (x s : Nat) (hx : x < kN g 2) (hs : s < 2) : KC w l mX12_lossOf 6 0 0 [.ref 413, .int (nI x), .int (nI s)] u (kq (some (.int (kLoss g x s))) u) := by
  subst eg
  exact qX12_lossOf hu hg x s hx hs
theorem gX12_hireDays {w : KW} {l : Launch} {u : KMem} (hu : kWd u) {g : Nat → Int32} (eg : u.2.1 414 = g) (hg : kGI g) (x s : Nat) (hx : x < kN g 2) (hs : s < 2) : KC w l mX12_hireDays 6 0 0 [.ref 413, .int (nI x), .int (nI s)] u (kq (some (.int (kHire g x s))) u) := by
  subst eg
  exact qX12_hireDays hu hg x s hx hs
theorem gX12_given {w : KW} {l : Launch} {u : KMem} (hu : kWd u) {g : Nat → Int32} (eg : u.2.1 414 = g) (hg : kGI g) (t : Nat) (ht : t < kN g 3) (a b c d : Int32) : KC w l mX12_given 2 0 0 [.ref 413, .int (nI t), .int a, .int b, .int c, .int d] u (kp kSM u (some (.int (kGiven g t a b c d)))) := by
  subst eg
  exact qX12_given hu hg t ht a b c d
theorem kw_ig {w : KW} {l : Launch} {mm : KM} {dd nc ns pc : Nat} {ls : List (Option Value)} {rest : List Value} {u : KMem} {Q : Option Value → KMem → Prop} {a n : Nat} {i : Int32} {f : Nat → Int32} (d : decode mm.2.1 pc = .ok (.iaload, 1)) (hu : kWd u) (eg : u.2.1 a = f) (hs : kv_sh a = (20, n)) (j : Nat) (hi : i = nI j) (hj : j < n) (hn : Nat.blt n 2147483648 = true)
    (kk : KV w l mm dd nc ns (pc + 1) ls (.int (f j) :: rest) u Q) : KV w l mm dd nc ns pc ls (.int i :: .ref a :: rest) u Q := by
  subst eg
  exact kw_il d hu hs j hi hj hn kk
def kHold (v most : Int32) : Int32 := if 0 < (if v < most then v else most) then (if v < most then v else most) else 0
theorem kInF_or (g : Nat → Int32) (use day : Int32) : ∀ n, kInF g use day n = -1 ∨ ∃ t, t < n ∧ kInF g use day n = nI t ∧ g (468 + 66 * t) = use
  | 0 => Or.inl rfl
  | n + 1 => by
    rw [kInF]
    split
    · rename_i h
      exact Or.inr ⟨n, Nat.lt_succ_self n, rfl, h.1⟩
    · rcases kInF_or g use day n with h | ⟨t, h1, h2⟩
      · exact Or.inl h
      · exact Or.inr ⟨t, by omega, h2⟩
theorem kInF_ge {g : Nat → Int32} {use day : Int32} {n : Nat} (hn : n < 2147483648) (h : 0 ≤ kInF g use day n) : (kInF g use day n).toNatClampNeg < n ∧ kInF g use day n = nI (kInF g use day n).toNatClampNeg := by
  rcases kInF_or g use day n with q | ⟨t, h1, h2, -⟩
  · rw [q] at h; exact absurd h (by decide)
  · rw [h2, nI_clamp (by omega)]; exact ⟨h1, rfl⟩
def kAgr (g : Nat → Int32) (x : Nat) : Int32 :=
  kHold (if 0 ≤ kInF g 0 (g (328 + 7 * x + 2)) (kN g 3) then kGiven g (kInF g 0 (g (328 + 7 * x + 2)) (kN g 3)).toNatClampNeg (kEnd g (kLeft g x) 0) (kEnd g (kLeft g x) 1) (kBits (kLeft g x) 24) (g (328 + 7 * x + 3)) else (kEnd g (kLeft g x) 0 + kEnd g (kLeft g x) 1) / 2) 100
noncomputable def kClm (g : Nat → Int32) (x s : Nat) : Int32 := (kLoss g x s + kHire g x s * g 12) * (if s = 0 then 100 - kAgr g x else kAgr g x) / 100
def kAbove (k : Int32) : Int32 := if k = 0 then -1 else if k = 2 then 1 else if k = 4 then 3 else 0
/-- the first entry of the same crash and side -/
def kSame (g : Nat → Int32) (i e : Nat) : Prop := g (1128 + 5 * i + 0) = g (1128 + 5 * e + 0) ∧ g (1128 + 5 * i + 1) = g (1128 + 5 * e + 1)
def kFstA (g : Nat → Int32) (e : Nat) : Nat → Nat → Nat
  | 0, i => i
  | n + 1, i => if g (1128 + 5 * i + 0) = g (1128 + 5 * e + 0) ∧ g (1128 + 5 * i + 1) = g (1128 + 5 * e + 1) then i else kFstA g e n (i + 1)
def kFst (g : Nat → Int32) (e : Nat) : Nat := kFstA g e e 0
theorem kFstA_s (g : Nat → Int32) (e : Nat) : ∀ n i, i + n = e → kSame g (kFstA g e n i) e ∧ i ≤ kFstA g e n i ∧ kFstA g e n i ≤ e ∧ ∀ j, i ≤ j → j < kFstA g e n i → ¬ kSame g j e
  | 0, i, h => by
    have : i = e := by omega
    subst this
    exact ⟨⟨rfl, rfl⟩, Nat.le_refl _, Nat.le_refl _, fun j h1 h2 => absurd h2 (by unfold kFstA; omega)⟩
  | n + 1, i, h => by
    unfold kFstA
    split
    · rename_i hc
      exact ⟨hc, Nat.le_refl _, by omega, fun j h1 h2 => by omega⟩
    · rename_i hc
      obtain ⟨h1, h2, h3, h4⟩ := kFstA_s g e n (i + 1) (by omega)
      refine ⟨h1, by omega, h3, fun j g1 g2 => ?_⟩
      by_cases hj : j = i
      · subst hj; exact hc
      · exact h4 j (by omega) g2
theorem kFst_s (g : Nat → Int32) (e : Nat) : kSame g (kFst g e) e := (kFstA_s g e e 0 (by omega)).1
theorem kFst_m {g : Nat → Int32} {e i : Nat} (h : i < kFst g e) : ¬ kSame g i e := (kFstA_s g e e 0 (by omega)).2.2.2 i (Nat.zero_le _) h
theorem kFst_le (g : Nat → Int32) (e : Nat) : kFst g e ≤ e := (kFstA_s g e e 0 (by omega)).2.2.1
