/-! THE CONSTRUCTORS OF CLASS AND MODEL -/
section KVInit
variable {w : KW} {l : Launch} {mm : KM} {dd nc ns pc : Nat} {ls : List (Option Value)} {rest : List Value} {u : KMem} {Q : Option Value → KMem → Prop}
theorem kv_self (vm : Vm) (c : ClassId) : vm.assignable c c = true := by
  show vm.assignableAux (255 + 1) c c = true
  rw [Vm.assignableAux]
  simp only [beq_self_eq_true, Bool.true_or]
theorem kv_newN {a idx ci n : Nat} {C : String} {T : u_T} {ty0 : Nat → FieldType} (hn : u.1 = a) (d : decode mm.2.1 pc = .ok (.new idx, 3)) (hcl : kv_CL ci C T n ty0) (hlk : Cond.classLink mm.1.cls idx C ∈ kv_tb) (hin : Cond.instantiable C n ∈ kv_tb) (hini : Cond.initialized C ∈ kv_tb) (hs : kv_sh a = (ci, n)) (hu : a < 433) (hdf : ∀ k, k < n → defaultValue (ty0 k) = if kv_ir ci k then .null else .int 0) (h1 : 1 ≤ nc) (h2 : n ≤ ns)
    (kk : KV w l mm dd (nc - 1) (ns - n) (pc + 3) ls (.ref a :: rest) (kv_al u) Q) : KV w l mm dd nc ns pc ls rest u Q := by
  subst hn
  exact kv_new d hcl hlk hin hini hs hu hdf h1 h2 kk
theorem kv_newIN {a n : Nat} {x : Int32} (hn0 : u.1 = a) (d : decode mm.2.1 pc = .ok (.newarray .int, 2)) (hw : Cond.arrayClass .int ∈ kv_tb) (hs : kv_sh a = (20, n)) (hu : a < 433) (hx : x = nI n) (hn : Nat.blt n 100000 = true) (h1 : 1 ≤ nc) (h2 : n ≤ ns)
    (kk : KV w l mm dd (nc - 1) (ns - n) (pc + 2) ls (.ref a :: rest) (kv_al u) Q) : KV w l mm dd nc ns pc ls (.int x :: rest) u Q := by
  subst hn0
  exact kv_newI d hw hs hu hx hn h1 h2 kk
theorem kv_newLN {a n : Nat} {x : Int32} (hn0 : u.1 = a) (d : decode mm.2.1 pc = .ok (.newarray .long, 2)) (hw : Cond.arrayClass .long ∈ kv_tb) (hs : kv_sh a = (21, n)) (hu : a < 433) (hx : x = nI n) (hn : Nat.blt n 100000 = true) (h1 : 1 ≤ nc) (h2 : n ≤ ns)
    (kk : KV w l mm dd (nc - 1) (ns - n) (pc + 2) ls (.ref a :: rest) (kv_al u) Q) : KV w l mm dd nc ns pc ls (.int x :: rest) u Q := by
  subst hn0
  exact kv_newL d hw hs hu hx hn h1 h2 kk
theorem kv_newAN {a n t idx : Nat} {x : Int32} {C : String} (hn0 : u.1 = a) (d : decode mm.2.1 pc = .ok (.anewarray idx, 3)) (hC : ["KnockTable$Car", "KnockTable$Crash", "KnockTable$Treaty", "KnockTable$Entry", "KnockTable$Sheet", "java/lang/String"][t]? = some C) (hlk : Cond.classLink mm.1.cls idx C ∈ kv_tb) (hw : C ∈ kv_nA) (hs : kv_sh a = (22 + t, n)) (hu : a < 433) (hx : x = nI n) (hn : Nat.blt n 100000 = true) (h1 : 1 ≤ nc) (h2 : n ≤ ns)
    (kk : KV w l mm dd (nc - 1) (ns - n) (pc + 3) ls (.ref a :: rest) (kv_al u) Q) : KV w l mm dd nc ns pc ls (.int x :: rest) u Q := by
  subst hn0
  exact kv_newA d hC hlk hw hs hu hx hn h1 h2 kk
/-- a text into a row of texts -/
theorem kv_aastS {a j n i0 : Nat} {i : Int32} (d : decode mm.2.1 pc = .ok (.aastore, 1)) (ha : a < u.1) (hs : kv_sh a = (27, n)) (hi : i = nI j) (hj : j < n) (hn : Nat.blt n 100000 = true) (h18 : i0 < 18)
    (kk : KV w l mm dd nc ns (pc + 1) ls rest (kv_sr u a j (some (10100 + i0))) Q) : KV w l mm dd nc ns pc ls (.ref (10100 + i0) :: .int i :: .ref a :: rest) u Q := by
  refine kv_aastV (t := 5) d rfl ha hs hi hj hn (Or.inr ⟨i0, h18, rfl, rfl⟩) (fun _ => Or.inr trivial) (fun s H locs hKK S M => ?_) kk
  obtain ⟨hK, hKC, -⟩ := hKK
  obtain ⟨cell, g1, g2, g3⟩ := vk_recv hKC.2.1 h18 S
  refine ⟨cell, ?_, g2, g3, kv_self _ _⟩
  rw [show kv_ad w (10100 + i0) = w.2.1 (100 + i0) from by unfold kv_ad; rw [if_neg (by omega), show 10100 + i0 - 10000 = 100 + i0 by omega]]
  exact g1
end KVInit
/-- n cells are made, their ints are P, their longs 0, the references of the Stores and those at L are as kv_rf has them -/
def kMd (n : Nat) (P : Nat → Nat → Int32) (L : List (Nat × Nat)) (u : KMem) : Prop := u.1 = n ∧ (∀ b, b < n → ∀ k, u.2.1 b k = P b k) ∧ (∀ b, b < n → ∀ k, u.2.2.1 b k = 0) ∧ (∀ b k c, ((1 ≤ b ∧ b < 385) ∨ (b, k) ∈ L) → kv_rf b k = some c → u.2.2.2 b k = some c) ∧ 385 ≤ n ∧ ∀ q ∈ L, q.1 < n
theorem kMd.al {n : Nat} {P : Nat → Nat → Int32} {L : List (Nat × Nat)} {u : KMem} (h : kMd n P L u) (n2 : Nat) (hn2 : n2 = n + 1) (hP : ∀ k, P n k = 0) : kMd n2 P L (kv_al u) := by
  subst hn2
  obtain ⟨h1, h2, h3, h4, h5, h6⟩ := h
  refine ⟨by show u.1 + 1 = n + 1; rw [h1], fun b hb k => ?_, fun b hb k => ?_, fun b k c hb hc => ?_, by omega, fun q hq => Nat.lt_succ_of_lt (h6 q hq)⟩
  · show (if b = u.1 then (0 : Int32) else u.2.1 b k) = P b k
    by_cases e : b = n
    · rw [if_pos (e.trans h1.symm), e, hP]
    · rw [if_neg (by rw [h1]; exact e), h2 b (by omega)]
  · show (if b = u.1 then (0 : Int64) else u.2.2.1 b k) = 0
    by_cases e : b = n
    · rw [if_pos (e.trans h1.symm)]
    · rw [if_neg (by rw [h1]; exact e), h3 b (by omega)]
  · show (if b = u.1 then (none : Option Nat) else u.2.2.2 b k) = some c
    have hlt : b < n := by
      rcases hb with q | q
      · omega
      · exact h6 _ q
    rw [if_neg (by omega)]
    exact h4 b k c hb hc
theorem kMd.sr {n : Nat} {P : Nat → Nat → Int32} {L : List (Nat × Nat)} {u : KMem} (h : kMd n P L u) (b k c : Nat) {x : Nat} (hx : x = c) (hb : b < n) (hc : kv_rf b k = some c) : kMd n P ((b, k) :: L) (kv_sr u b k (some x)) := by
  subst hx
  obtain ⟨h1, h2, h3, h4, h5, h6⟩ := h
  refine ⟨h1, h2, h3, fun b2 k2 c2 hb2 hc2 => ?_, h5, fun q hq => ?_⟩
  · show (if b2 = b then (if k2 = k then some x else u.2.2.2 b2 k2) else u.2.2.2 b2 k2) = some c2
    by_cases e1 : b2 = b
    · by_cases e2 : k2 = k
      · subst e1; subst e2
        rw [if_pos rfl, if_pos rfl, ← hc2, hc]
      · rw [if_pos e1, if_neg e2]
        refine h4 b2 k2 c2 (hb2.imp id fun q => ?_) hc2
        rcases List.mem_cons.mp q with q | q
        · exact absurd (congrArg Prod.snd q) e2
        · exact q
    · rw [if_neg e1]
      refine h4 b2 k2 c2 (hb2.imp id fun q => ?_) hc2
      rcases List.mem_cons.mp q with q | q
      · exact absurd (congrArg Prod.fst q) e1
      · exact q
  · rcases List.mem_cons.mp hq with rfl | hq
    · exact hb
    · exact h6 q hq
def kPs (P : Nat → Nat → Int32) (a j : Nat) (x : Int32) : Nat → Nat → Int32 := fun b k => if b = a then (if k = j then x else P b k) else P b k
theorem kMd.si {n : Nat} {P : Nat → Nat → Int32} {L : List (Nat × Nat)} {u : KMem} (h : kMd n P L u) (a j : Nat) (x : Int32) : kMd n (kPs P a j x) L (kv_si u a j x) := by
  obtain ⟨h1, h2, h3, h4, h5, h6⟩ := h
  refine ⟨h1, fun b hb k => ?_, h3, h4, h5, h6⟩
  show (if b = a then (if k = j then x else u.2.1 b k) else u.2.1 b k) = _
  rw [h2 b hb k]
  rfl
def kP0 (b k : Nat) : Int32 := if b < 193 then kIS 1 b k else if b < 385 then kIS 193 b k else 0
theorem kP0_z {n : Nat} (h : 385 ≤ n) : ∀ k, kP0 n k = 0 := fun k => by
  unfold kP0
  rw [if_neg (by omega), if_neg (by omega)]
/-- both Stores are made -/
theorem kMd_0 {u v1 v2 : KMem} (hu : u.1 = 1) (z1 : ∀ k, u.2.1 0 k = 0) (z2 : ∀ k, u.2.2.1 0 k = 0) (h1 : kSI 1 30 20 10 40 (kv_al u) v1) (h2 : kSI 193 30 20 10 40 (kv_al (kv_sr v1 0 0 (some 1))) v2) : kMd 385 kP0 [(0, 0)] v2 := by
  have e1 : v1.1 = 193 := h1.1
  have e2 : v2.1 = 385 := h2.1
  obtain ⟨-, a1, a2, a3, a4⟩ := h1
  obtain ⟨-, b1, b2, b3, b4⟩ := h2
  rw [e1] at a2 a3 a4
  rw [e2] at b2 b3 b4
  have hxr : ∀ s b k c, kv_rfS (b - s) s k = some c → kXr s 30 20 10 40 b k = some c := by
    intro s b k c hc
    unfold kXr
    by_cases y1 : b = s + 1
    · subst y1
      rw [show s + 1 - s = 1 by omega] at hc
      rw [if_pos rfl]; exact hc
    rw [if_neg y1]
    by_cases y5 : b = s + 5
    · subst y5
      rw [show s + 5 - s = 5 by omega] at hc
      rw [if_pos rfl]; exact hc
    rw [if_neg y5]
    by_cases y6 : b = s + 6
    · subst y6
      rw [show s + 6 - s = 6 by omega] at hc
      rw [if_pos rfl]; exact hc
    rw [if_neg y6]
    by_cases y7 : b = s + 7
    · subst y7
      rw [show s + 7 - s = 7 by omega] at hc
      rw [if_pos rfl]; exact hc
    rw [if_neg y7]; exact hc
  refine ⟨e2, fun b hb k => ?_, fun b hb k => ?_, fun b k c hb hc => ?_, Nat.le_refl _, fun q hq => ?_⟩
  · unfold kP0
    by_cases g : b < 193
    · rw [if_pos g, (b1 b g k).1]
      show (if b = v1.1 then (0 : Int32) else v1.2.1 b k) = _
      rw [if_neg (by omega)]
      by_cases g0 : b = 0
      · subst g0
        rw [(a1 0 (by omega) k).1]
        show (if 0 = u.1 then (0 : Int32) else u.2.1 0 k) = _
        rw [if_neg (by omega), z1]
        unfold kIS
        rw [if_neg (by omega), if_neg (by omega)]
      · exact a2 b (by omega) g k
    · rw [if_neg g, if_pos hb]
      exact b2 b (by omega) hb k
  · by_cases g : b < 193
    · rw [(b1 b g k).2.1]
      show (if b = v1.1 then (0 : Int64) else v1.2.2.1 b k) = _
      rw [if_neg (by omega)]
      by_cases g0 : b = 0
      · subst g0
        rw [(a1 0 (by omega) k).2.1]
        show (if 0 = u.1 then (0 : Int64) else u.2.2.1 0 k) = _
        rw [if_neg (by omega), z2]
      · exact a3 b (by omega) g k
    · exact b3 b (by omega) hb k
  · unfold kv_rf at hc
    rcases hb with hb | hb
    · by_cases g : b < 193
      · rw [if_neg (by omega), if_pos g] at hc
        rw [(b1 b g k).2.2]
        show (if b = v1.1 then (none : Option Nat) else (if b = 0 then (if k = 0 then some 1 else v1.2.2.2 b k) else v1.2.2.2 b k)) = _
        rw [if_neg (by omega), if_neg (by omega)]
        exact a4 b (by omega) g k c (hxr _ _ _ _ hc)
      · rw [if_neg (by omega), if_neg g, if_pos hb.2] at hc
        exact b4 b (by omega) hb.2 k c (hxr _ _ _ _ hc)
    · have hbk : b = 0 ∧ k = 0 := by simpa using hb
      obtain ⟨rfl, rfl⟩ := hbk
      rw [← hc, (b1 0 (by omega) 0).2.2]
      show (if 0 = v1.1 then (none : Option Nat) else (if 0 = 0 then (if 0 = 0 then some 1 else v1.2.2.2 0 0) else v1.2.2.2 0 0)) = _
      rw [if_neg (by omega)]
      rfl
  · have : q = (0, 0) := by simpa using hq
    subst this
    exact (by decide : (0 : Nat) < 385)
def kLX : List (Nat × Nat) := [(399, 3), (410, 3), (410, 0), (399, 2), (407, 3), (407, 0), (399, 1), (404, 3), (404, 0), (399, 0), (401, 3), (401, 0), (0, 8), (0, 7), (0, 6), (397, 0), (0, 5), (394, 0), (394, 2), (394, 1), (0, 4), (389, 1), (389, 0), (389, 6), (389, 5), (389, 4), (389, 2), (0, 3), (0, 2), (385, 0), (385, 2), (385, 1), (0, 1), (0, 0)]
set_option maxRecDepth 20000 in
set_option maxHeartbeats 4000000 in
theorem qX11_init {w : KW} {l : Launch} {u : KMem} (hu : u.1 = 1) (z1 : ∀ k, u.2.1 0 k = 0) (z2 : ∀ k, u.2.2.1 0 k = 0) : KC w l mX11_init 3 412 9186 [.ref 0] u (fun r v => r = none ∧ kMd 413 kP0 kLX v) := by
  have K_end : ∀ v, kMd 413 kP0 [(399, 3), (410, 3), (410, 0), (399, 2), (407, 3), (407, 0), (399, 1), (404, 3), (404, 0), (399, 0), (401, 3), (401, 0), (0, 8), (0, 7), (0, 6), (397, 0), (0, 5), (394, 0), (394, 2), (394, 1), (0, 4), (389, 1), (389, 0), (389, 6), (389, 5), (389, 4), (389, 2), (0, 3), (0, 2), (385, 0), (385, 2), (385, 1), (0, 1), (0, 0)] v → KV w l mX11_init 3 0 0 115 [some (.ref 0), some (.int 4)] [] v (fun r v => r = none ∧ kMd 413 kP0 kLX v) := by
    intro v hv
    refine kv_iload_n dX11_init_115 rfl ?_
    refine kv_iconst dX11_init_116 4 ki_4 ?_
    refine kv_icmp_ge dX11_init_117 139 (by decide) (fun _ => ?_) (fun h => absurd (by decide) h)
    exact kv_vret dX11_init_139 rfl ⟨rfl, hv⟩
  have K_S3 : ∀ v, kMd 410 kP0 [(399, 2), (407, 3), (407, 0), (399, 1), (404, 3), (404, 0), (399, 0), (401, 3), (401, 0), (0, 8), (0, 7), (0, 6), (397, 0), (0, 5), (394, 0), (394, 2), (394, 1), (0, 4), (389, 1), (389, 0), (389, 6), (389, 5), (389, 4), (389, 2), (0, 3), (0, 2), (385, 0), (385, 2), (385, 1), (0, 1), (0, 0)] v → KV w l mX11_init 3 3 412 115 [some (.ref 0), some (.int 3)] [] v (fun r v => r = none ∧ kMd 413 kP0 kLX v) := by
    intro v hv
    refine kv_iload_n dX11_init_115 rfl ?_
    refine kv_iconst dX11_init_116 4 ki_4 ?_
    refine kv_icmp_ge dX11_init_117 139 (by decide) (fun h => absurd h (by decide)) (fun _ => ?_)
    refine kv_aload_n dX11_init_120 rfl ?_
    refine kv_getR (b := 399) 10 dX11_init_121 fX11_60 (by rw [hv.1]; decide) rfl rfl rfl (hv.2.2.2.1 0 7 399 (Or.inr (by decide)) rfl) ?_
    refine kv_iload_n dX11_init_124 rfl ?_
    refine kv_newN hv.1 dX11_init_125 kC6 cX11_58 iX6.1 iX6.2 rfl (by decide) (by decide) (by decide) (by decide) ?_
    refine kv_dup dX11_init_128 rfl ?_
    have m0 := hv.al 411 rfl (kP0_z (by decide))
    refine kv_callIN [] dX11_init_129 lX11_68 wX6_init (qX6_init (a := 410) (m0.1.trans rfl) rfl rfl rfl (by decide)) rfl rfl (by decide) (by decide) (by decide) (fun r v2 q => ?_)
    obtain ⟨rfl, rfl⟩ := q
    have m1 := m0.al 412 rfl (kP0_z (by decide))
    have m2 := m1.sr 410 0 411 (x := (kv_al v).1) (by rw [m0.1]) (by decide) rfl
    have m3 := m2.al 413 rfl (kP0_z (by decide))
    have m4 := m3.sr 410 3 412 (x := (kv_al v).1 + 1) (by rw [m0.1]) (by decide) rfl
    refine kv_aast (t := 4) (a := 399) (b := 410) dX11_init_132 rfl (by rw [m4.1]; decide) rfl (show (3 : Int32) = nI 3 from rfl) (by decide) rfl (by rw [m4.1]; decide) rfl (by decide) rfl ?_
    refine kv_iinc (ls2 := [_, _]) dX11_init_133 4 rfl (by decide) rfl rfl rfl rfl ?_
    refine kv_goto dX11_init_136 115 (by decide) ?_
    exact KV.room (K_end _ (m4.sr 399 3 410 rfl (by decide) rfl)) (by decide) (by decide)
  have K_S2 : ∀ v, kMd 407 kP0 [(399, 1), (404, 3), (404, 0), (399, 0), (401, 3), (401, 0), (0, 8), (0, 7), (0, 6), (397, 0), (0, 5), (394, 0), (394, 2), (394, 1), (0, 4), (389, 1), (389, 0), (389, 6), (389, 5), (389, 4), (389, 2), (0, 3), (0, 2), (385, 0), (385, 2), (385, 1), (0, 1), (0, 0)] v → KV w l mX11_init 3 6 824 115 [some (.ref 0), some (.int 2)] [] v (fun r v => r = none ∧ kMd 413 kP0 kLX v) := by
    intro v hv
    refine kv_iload_n dX11_init_115 rfl ?_
    refine kv_iconst dX11_init_116 4 ki_4 ?_
    refine kv_icmp_ge dX11_init_117 139 (by decide) (fun h => absurd h (by decide)) (fun _ => ?_)
    refine kv_aload_n dX11_init_120 rfl ?_
    refine kv_getR (b := 399) 10 dX11_init_121 fX11_60 (by rw [hv.1]; decide) rfl rfl rfl (hv.2.2.2.1 0 7 399 (Or.inr (by decide)) rfl) ?_
    refine kv_iload_n dX11_init_124 rfl ?_
    refine kv_newN hv.1 dX11_init_125 kC6 cX11_58 iX6.1 iX6.2 rfl (by decide) (by decide) (by decide) (by decide) ?_
    refine kv_dup dX11_init_128 rfl ?_
    have m0 := hv.al 408 rfl (kP0_z (by decide))
    refine kv_callIN [] dX11_init_129 lX11_68 wX6_init (qX6_init (a := 407) (m0.1.trans rfl) rfl rfl rfl (by decide)) rfl rfl (by decide) (by decide) (by decide) (fun r v2 q => ?_)
    obtain ⟨rfl, rfl⟩ := q
    have m1 := m0.al 409 rfl (kP0_z (by decide))
    have m2 := m1.sr 407 0 408 (x := (kv_al v).1) (by rw [m0.1]) (by decide) rfl
    have m3 := m2.al 410 rfl (kP0_z (by decide))
    have m4 := m3.sr 407 3 409 (x := (kv_al v).1 + 1) (by rw [m0.1]) (by decide) rfl
    refine kv_aast (t := 4) (a := 399) (b := 407) dX11_init_132 rfl (by rw [m4.1]; decide) rfl (show (2 : Int32) = nI 2 from rfl) (by decide) rfl (by rw [m4.1]; decide) rfl (by decide) rfl ?_
    refine kv_iinc (ls2 := [_, _]) dX11_init_133 3 rfl (by decide) rfl rfl rfl rfl ?_
    refine kv_goto dX11_init_136 115 (by decide) ?_
    exact KV.room (K_S3 _ (m4.sr 399 2 407 rfl (by decide) rfl)) (by decide) (by decide)
  have K_S1 : ∀ v, kMd 404 kP0 [(399, 0), (401, 3), (401, 0), (0, 8), (0, 7), (0, 6), (397, 0), (0, 5), (394, 0), (394, 2), (394, 1), (0, 4), (389, 1), (389, 0), (389, 6), (389, 5), (389, 4), (389, 2), (0, 3), (0, 2), (385, 0), (385, 2), (385, 1), (0, 1), (0, 0)] v → KV w l mX11_init 3 9 1236 115 [some (.ref 0), some (.int 1)] [] v (fun r v => r = none ∧ kMd 413 kP0 kLX v) := by
    intro v hv
    refine kv_iload_n dX11_init_115 rfl ?_
    refine kv_iconst dX11_init_116 4 ki_4 ?_
    refine kv_icmp_ge dX11_init_117 139 (by decide) (fun h => absurd h (by decide)) (fun _ => ?_)
    refine kv_aload_n dX11_init_120 rfl ?_
    refine kv_getR (b := 399) 10 dX11_init_121 fX11_60 (by rw [hv.1]; decide) rfl rfl rfl (hv.2.2.2.1 0 7 399 (Or.inr (by decide)) rfl) ?_
    refine kv_iload_n dX11_init_124 rfl ?_
    refine kv_newN hv.1 dX11_init_125 kC6 cX11_58 iX6.1 iX6.2 rfl (by decide) (by decide) (by decide) (by decide) ?_
    refine kv_dup dX11_init_128 rfl ?_
    have m0 := hv.al 405 rfl (kP0_z (by decide))
    refine kv_callIN [] dX11_init_129 lX11_68 wX6_init (qX6_init (a := 404) (m0.1.trans rfl) rfl rfl rfl (by decide)) rfl rfl (by decide) (by decide) (by decide) (fun r v2 q => ?_)
    obtain ⟨rfl, rfl⟩ := q
    have m1 := m0.al 406 rfl (kP0_z (by decide))
    have m2 := m1.sr 404 0 405 (x := (kv_al v).1) (by rw [m0.1]) (by decide) rfl
    have m3 := m2.al 407 rfl (kP0_z (by decide))
    have m4 := m3.sr 404 3 406 (x := (kv_al v).1 + 1) (by rw [m0.1]) (by decide) rfl
    refine kv_aast (t := 4) (a := 399) (b := 404) dX11_init_132 rfl (by rw [m4.1]; decide) rfl (show (1 : Int32) = nI 1 from rfl) (by decide) rfl (by rw [m4.1]; decide) rfl (by decide) rfl ?_
    refine kv_iinc (ls2 := [_, _]) dX11_init_133 2 rfl (by decide) rfl rfl rfl rfl ?_
    refine kv_goto dX11_init_136 115 (by decide) ?_
    exact KV.room (K_S2 _ (m4.sr 399 1 404 rfl (by decide) rfl)) (by decide) (by decide)
  have K_S0 : ∀ v, kMd 401 kP0 [(0, 8), (0, 7), (0, 6), (397, 0), (0, 5), (394, 0), (394, 2), (394, 1), (0, 4), (389, 1), (389, 0), (389, 6), (389, 5), (389, 4), (389, 2), (0, 3), (0, 2), (385, 0), (385, 2), (385, 1), (0, 1), (0, 0)] v → KV w l mX11_init 3 12 1648 115 [some (.ref 0), some (.int 0)] [] v (fun r v => r = none ∧ kMd 413 kP0 kLX v) := by
    intro v hv
    refine kv_iload_n dX11_init_115 rfl ?_
    refine kv_iconst dX11_init_116 4 ki_4 ?_
    refine kv_icmp_ge dX11_init_117 139 (by decide) (fun h => absurd h (by decide)) (fun _ => ?_)
    refine kv_aload_n dX11_init_120 rfl ?_
    refine kv_getR (b := 399) 10 dX11_init_121 fX11_60 (by rw [hv.1]; decide) rfl rfl rfl (hv.2.2.2.1 0 7 399 (Or.inr (by decide)) rfl) ?_
    refine kv_iload_n dX11_init_124 rfl ?_
    refine kv_newN hv.1 dX11_init_125 kC6 cX11_58 iX6.1 iX6.2 rfl (by decide) (by decide) (by decide) (by decide) ?_
    refine kv_dup dX11_init_128 rfl ?_
    have m0 := hv.al 402 rfl (kP0_z (by decide))
    refine kv_callIN [] dX11_init_129 lX11_68 wX6_init (qX6_init (a := 401) (m0.1.trans rfl) rfl rfl rfl (by decide)) rfl rfl (by decide) (by decide) (by decide) (fun r v2 q => ?_)
    obtain ⟨rfl, rfl⟩ := q
    have m1 := m0.al 403 rfl (kP0_z (by decide))
    have m2 := m1.sr 401 0 402 (x := (kv_al v).1) (by rw [m0.1]) (by decide) rfl
    have m3 := m2.al 404 rfl (kP0_z (by decide))
    have m4 := m3.sr 401 3 403 (x := (kv_al v).1 + 1) (by rw [m0.1]) (by decide) rfl
    refine kv_aast (t := 4) (a := 399) (b := 401) dX11_init_132 rfl (by rw [m4.1]; decide) rfl (show (0 : Int32) = nI 0 from rfl) (by decide) rfl (by rw [m4.1]; decide) rfl (by decide) rfl ?_
    refine kv_iinc (ls2 := [_, _]) dX11_init_133 1 rfl (by decide) rfl rfl rfl rfl ?_
    refine kv_goto dX11_init_136 115 (by decide) ?_
    exact KV.room (K_S1 _ (m4.sr 399 0 401 rfl (by decide) rfl)) (by decide) (by decide)
  have K_ref : ∀ v, kMd 400 kP0 [(0, 7), (0, 6), (397, 0), (0, 5), (394, 0), (394, 2), (394, 1), (0, 4), (389, 1), (389, 0), (389, 6), (389, 5), (389, 4), (389, 2), (0, 3), (0, 2), (385, 0), (385, 2), (385, 1), (0, 1), (0, 0)] v → KV w l mX11_init 3 13 1655 105 [some (.ref 0), none] [] v (fun r v => r = none ∧ kMd 413 kP0 kLX v) := by
    intro v hv
    refine kv_aload_n dX11_init_105 rfl ?_
    refine kv_bipush dX11_init_106 7 kb_7 ?_
    refine kv_newIN hv.1 dX11_init_108 w_row_int rfl (by decide) (show (7 : Int32) = nI 7 from rfl) rfl (by decide) (by decide) ?_
    have m0 := hv.al 401 rfl (kP0_z (by decide))
    refine kv_putR 10 dX11_init_110 fX11_64 (fun _ => ⟨rfl, rfl⟩) (by rw [m0.1]; decide) rfl rfl rfl (fun _ => rfl) (fun _ => rfl) ?_
    refine kv_iconst dX11_init_113 0 ki_0 ?_
    refine kv_istore_n (ls2 := [_, _]) dX11_init_114 rfl rfl rfl rfl ?_
    exact KV.room (K_S0 _ (m0.sr 0 8 400 rfl (by decide) rfl)) (by decide) (by decide)
  have K_row : ∀ v, kMd 399 kP0 [(0, 6), (397, 0), (0, 5), (394, 0), (394, 2), (394, 1), (0, 4), (389, 1), (389, 0), (389, 6), (389, 5), (389, 4), (389, 2), (0, 3), (0, 2), (385, 0), (385, 2), (385, 1), (0, 1), (0, 0)] v → KV w l mX11_init 3 14 1659 97 [some (.ref 0), none] [] v (fun r v => r = none ∧ kMd 413 kP0 kLX v) := by
    intro v hv
    refine kv_aload_n dX11_init_97 rfl ?_
    refine kv_iconst dX11_init_98 4 ki_4 ?_
    refine kv_newAN (t := 4) hv.1 dX11_init_99 rfl cX11_58 (by decide +kernel) rfl (by decide) (show (4 : Int32) = nI 4 from rfl) rfl (by decide) (by decide) ?_
    have m0 := hv.al 400 rfl (kP0_z (by decide))
    refine kv_putR 10 dX11_init_102 fX11_60 (fun _ => ⟨rfl, rfl⟩) (by rw [m0.1]; decide) rfl rfl rfl (fun _ => rfl) (fun _ => rfl) ?_
    exact KV.room (K_ref _ (m0.sr 0 7 399 rfl (by decide) rfl)) (by decide) (by decide)
  have K_X10 : ∀ v, kMd 397 kP0 [(0, 5), (394, 0), (394, 2), (394, 1), (0, 4), (389, 1), (389, 0), (389, 6), (389, 5), (389, 4), (389, 2), (0, 3), (0, 2), (385, 0), (385, 2), (385, 1), (0, 1), (0, 0)] v → KV w l mX11_init 3 16 1695 86 [some (.ref 0), none] [] v (fun r v => r = none ∧ kMd 413 kP0 kLX v) := by
    intro v hv
    refine kv_aload_n dX11_init_86 rfl ?_
    refine kv_newN hv.1 dX11_init_87 kC10 cX11_51 iX10.1 iX10.2 rfl (by decide) (by decide) (by decide) (by decide) ?_
    refine kv_dup dX11_init_90 rfl ?_
    have m0 := hv.al 398 rfl (kP0_z (by decide))
    refine kv_callIN [] dX11_init_91 lX11_53 wX10_init (qX10_init (a := 397) (m0.1.trans rfl) rfl rfl (by decide)) rfl rfl (by decide) (by decide) (by decide) (fun r v2 q => ?_)
    obtain ⟨rfl, rfl⟩ := q
    have m1 := m0.al 399 rfl (kP0_z (by decide))
    have m2 := m1.sr 397 0 398 (x := (kv_al v).1) (by rw [m0.1]) (by decide) rfl
    refine kv_putR 10 dX11_init_94 fX11_54 (fun _ => ⟨rfl, rfl⟩) (by rw [m2.1]; decide) rfl rfl rfl (fun _ => rfl) (fun _ => rfl) ?_
    exact KV.room (K_row _ (m2.sr 0 6 397 rfl (by decide) rfl)) (by decide) (by decide)
  have K_X8 : ∀ v, kMd 394 kP0 [(0, 4), (389, 1), (389, 0), (389, 6), (389, 5), (389, 4), (389, 2), (0, 3), (0, 2), (385, 0), (385, 2), (385, 1), (0, 1), (0, 0)] v → KV w l mX11_init 3 19 1740 71 [some (.ref 0), none] [] v (fun r v => r = none ∧ kMd 413 kP0 kLX v) := by
    intro v hv
    refine kv_aload_n dX11_init_71 rfl ?_
    refine kv_newN hv.1 dX11_init_72 kC8 cX11_44 iX8.1 iX8.2 rfl (by decide) (by decide) (by decide) (by decide) ?_
    refine kv_dup dX11_init_75 rfl ?_
    have m0 := hv.al 395 rfl (kP0_z (by decide))
    refine kv_aload_n dX11_init_76 rfl ?_
    refine kv_getR (b := 1) 10 dX11_init_77 fX11_12 (by rw [m0.1]; decide) rfl rfl rfl (m0.2.2.2.1 0 0 1 (Or.inr (by decide)) rfl) ?_
    refine kv_callI [.ref 1] dX11_init_80 lX11_46 wX8_init (qX8_init (a := 394) (m0.1.trans rfl) rfl rfl rfl (by decide) 1) rfl rfl (by decide) (by decide) (by decide) (fun r v2 q => ?_)
    obtain ⟨rfl, rfl⟩ := q
    have m1 := m0.al 396 rfl (kP0_z (by decide))
    have m2 := m1.sr 394 1 395 (x := (kv_al v).1) (by rw [m0.1]) (by decide) rfl
    have m3 := m2.al 397 rfl (kP0_z (by decide))
    have m4 := m3.sr 394 2 396 (x := (kv_al v).1 + 1) (by rw [m0.1]) (by decide) rfl
    have m5 := m4.sr 394 0 1 rfl (by decide) rfl
    refine kv_putR 10 dX11_init_83 fX11_47 (fun _ => ⟨rfl, rfl⟩) (by rw [m5.1]; decide) rfl rfl rfl (fun _ => rfl) (fun _ => rfl) ?_
    exact KV.room (K_X10 _ (m5.sr 0 5 394 rfl (by decide) rfl)) (by decide) (by decide)
  have K_X4 : ∀ v, kMd 389 kP0 [(0, 3), (0, 2), (385, 0), (385, 2), (385, 1), (0, 1), (0, 0)] v → KV w l mX11_init 3 24 5865 52 [some (.ref 0), none] [] v (fun r v => r = none ∧ kMd 413 kP0 kLX v) := by
    intro v hv
    refine kv_aload_n dX11_init_52 rfl ?_
    refine kv_newN hv.1 dX11_init_53 kC4 cX11_35 iX4.1 iX4.2 rfl (by decide) (by decide) (by decide) (by decide) ?_
    refine kv_dup dX11_init_56 rfl ?_
    have m0 := hv.al 390 rfl (kP0_z (by decide))
    refine kv_aload_n dX11_init_57 rfl ?_
    refine kv_getR (b := 1) 10 dX11_init_58 fX11_12 (by rw [m0.1]; decide) rfl rfl rfl (m0.2.2.2.1 0 0 1 (Or.inr (by decide)) rfl) ?_
    refine kv_aload_n dX11_init_61 rfl ?_
    refine kv_getR (b := 385) 10 dX11_init_62 fX11_24 (by rw [m0.1]; decide) rfl rfl rfl (m0.2.2.2.1 0 2 385 (Or.inr (by decide)) rfl) ?_
    refine kv_callI [.ref 1, .ref 385] dX11_init_65 lX11_37 wX4_init (qX4_init (a := 389) (m0.1.trans rfl) rfl rfl rfl rfl rfl (by decide) 1 385) rfl rfl (by decide) (by decide) (by decide) (fun r v2 q => ?_)
    obtain ⟨rfl, rfl⟩ := q
    have m1 := m0.al 391 rfl (kP0_z (by decide))
    have m2 := m1.sr 389 2 390 (x := (kv_al v).1) (by rw [m0.1]) (by decide) rfl
    have m3 := m2.al 392 rfl (kP0_z (by decide))
    have m4 := m3.sr 389 4 391 (x := (kv_al v).1 + 1) (by rw [m0.1]) (by decide) rfl
    have m5 := m4.al 393 rfl (kP0_z (by decide))
    have m6 := m5.sr 389 5 392 (x := (kv_al v).1 + 2) (by rw [m0.1]) (by decide) rfl
    have m7 := m6.al 394 rfl (kP0_z (by decide))
    have m8 := m7.sr 389 6 393 (x := (kv_al v).1 + 3) (by rw [m0.1]) (by decide) rfl
    have m9 := m8.sr 389 0 1 rfl (by decide) rfl
    have m10 := m9.sr 389 1 385 rfl (by decide) rfl
    refine kv_putR 10 dX11_init_68 fX11_40 (fun _ => ⟨rfl, rfl⟩) (by rw [m10.1]; decide) rfl rfl rfl (fun _ => rfl) (fun _ => rfl) ?_
    exact KV.room (K_X8 _ (m10.sr 0 4 389 rfl (by decide) rfl)) (by decide) (by decide)
  have K_X5 : ∀ v, kMd 388 kP0 [(0, 2), (385, 0), (385, 2), (385, 1), (0, 1), (0, 0)] v → KV w l mX11_init 3 25 5872 41 [some (.ref 0), none] [] v (fun r v => r = none ∧ kMd 413 kP0 kLX v) := by
    intro v hv
    refine kv_aload_n dX11_init_41 rfl ?_
    refine kv_newN hv.1 dX11_init_42 kC5 cX11_28 iX5.1 iX5.2 rfl (by decide) (by decide) (by decide) (by decide) ?_
    refine kv_dup dX11_init_45 rfl ?_
    have m0 := hv.al 389 rfl (kP0_z (by decide))
    refine kv_callIN [] dX11_init_46 lX11_30 wX5_init (qX5_init (a := 388) (m0.1.trans rfl) rfl (by decide)) rfl rfl (by decide) (by decide) (by decide) (fun r v2 q => ?_)
    obtain ⟨rfl, rfl⟩ := q
    refine kv_putR 10 dX11_init_49 fX11_31 (fun _ => ⟨rfl, rfl⟩) (by rw [m0.1]; decide) rfl rfl rfl (fun _ => rfl) (fun _ => rfl) ?_
    exact KV.room (K_X4 _ (m0.sr 0 3 388 rfl (by decide) rfl)) (by decide) (by decide)
  have K_X3 : ∀ v, kMd 385 kP0 [(0, 1), (0, 0)] v → KV w l mX11_init 3 28 5944 26 [some (.ref 0), none] [] v (fun r v => r = none ∧ kMd 413 kP0 kLX v) := by
    intro v hv
    refine kv_aload_n dX11_init_26 rfl ?_
    refine kv_newN hv.1 dX11_init_27 kC3 cX11_19 iX3.1 iX3.2 rfl (by decide) (by decide) (by decide) (by decide) ?_
    refine kv_dup dX11_init_30 rfl ?_
    have m0 := hv.al 386 rfl (kP0_z (by decide))
    refine kv_aload_n dX11_init_31 rfl ?_
    refine kv_getR (b := 1) 10 dX11_init_32 fX11_12 (by rw [m0.1]; decide) rfl rfl rfl (m0.2.2.2.1 0 0 1 (Or.inr (by decide)) rfl) ?_
    refine kv_callI [.ref 1] dX11_init_35 lX11_21 wX3_init (qX3_init (a := 385) (m0.1.trans rfl) rfl rfl rfl (by decide) 1) rfl rfl (by decide) (by decide) (by decide) (fun r v2 q => ?_)
    obtain ⟨rfl, rfl⟩ := q
    have m1 := m0.al 387 rfl (kP0_z (by decide))
    have m2 := m1.sr 385 1 386 (x := (kv_al v).1) (by rw [m0.1]) (by decide) rfl
    have m3 := m2.al 388 rfl (kP0_z (by decide))
    have m4 := m3.sr 385 2 387 (x := (kv_al v).1 + 1) (by rw [m0.1]) (by decide) rfl
    have m5 := m4.sr 385 0 1 rfl (by decide) rfl
    refine kv_putR 10 dX11_init_38 fX11_24 (fun _ => ⟨rfl, rfl⟩) (by rw [m5.1]; decide) rfl rfl rfl (fun _ => rfl) (fun _ => rfl) ?_
    exact KV.room (K_X5 _ (m5.sr 0 2 385 rfl (by decide) rfl)) (by decide) (by decide)
  refine KC.of (ls := [_, _]) rfl rfl (Nat.le_of_ble_eq_true rfl) ?_
  refine kv_aload_n dX11_init_0 rfl ?_
  refine kv_objI dX11_init_1 lX11_3 w_obj rfl (by decide) ?_
  refine kv_aload_n dX11_init_4 rfl ?_
  refine kv_newN hu dX11_init_5 kC7 cX11_9 iX7.1 iX7.2 rfl (by decide) (by decide) (by decide) (by decide) ?_
  refine kv_dup dX11_init_8 rfl ?_
  refine kv_callI [] dX11_init_9 lX11_11 wX7_init (qX7_init (s := 1) (Or.inl rfl) (congrArg (fun n => n + 1) hu) (fun k => if_pos hu.symm) (fun k => if_pos hu.symm)) rfl rfl (by decide) (by decide) (by decide) (fun r v1 q => ?_)
  obtain ⟨rfl, h1⟩ := q
  have e1 : v1.1 = 193 := h1.1
  refine kv_putR 10 dX11_init_12 fX11_12 (fun _ => ⟨rfl, rfl⟩) (by rw [e1]; decide) rfl rfl rfl (fun _ => rfl) (fun _ => rfl) ?_
  refine kv_aload_n dX11_init_15 rfl ?_
  refine kv_newN (a := 193) e1 dX11_init_16 kC7 cX11_9 iX7.1 iX7.2 rfl (by decide) (by decide) (by decide) (by decide) ?_
  refine kv_dup dX11_init_19 rfl ?_
  refine kv_callI [] dX11_init_20 lX11_11 wX7_init (qX7_init (s := 193) (Or.inr rfl) (congrArg (fun n => n + 1) e1) (fun k => if_pos e1.symm) (fun k => if_pos e1.symm)) rfl rfl (by decide) (by decide) (by decide) (fun r v2 q => ?_)
  obtain ⟨rfl, h2⟩ := q
  have e2 : v2.1 = 385 := h2.1
  refine kv_putR 10 dX11_init_23 fX11_16 (fun _ => ⟨rfl, rfl⟩) (by rw [e2]; decide) rfl rfl rfl (fun _ => rfl) (fun _ => rfl) ?_
  exact KV.room (K_X3 _ ((kMd_0 hu z1 z2 h1 h2).sr 0 1 193 rfl (by decide) rfl)) (by decide) (by decide)
