/-! VOICES: what a body answers, what it leaves of the trace -/
abbrev kVS := (Nat → Int32) × Nat × Int32
def kBody (fr act : Nat) : Nat := ([10, 11, 12, 13, 10, 20, 12, 21, 30, 20, 31, 21, 40, 11, 41, 13, 40, 50, 51, 52] : List Nat).getD (4 * fr + act) 0
def kSub (K b : Nat) : List (Nat × Nat) := if b = 10 then [] else if b = 11 then [(K, 0)] else if b = 12 then [(K, 1)] else if b = 13 then [] else if b = 20 then [(0, 1)] else if b = 21 then [(0, 3), (K, 2)] else if b = 30 then [(1, 0)] else if b = 31 then [(1, 2)] else if b = 40 then [(0, 0)] else if b = 41 then [(0, 2)] else if b = 50 then [(3, 1)] else if b = 51 then [(3, 2), (K, 0)] else [(K, 0), (3, 3)]
def kFu (K : Nat) : Nat → Nat → Nat → Bool
  | 0, _, _ => false
  | f + 1, fr, act => (kSub K (kBody fr act)).all (fun q => kFu K f q.1 q.2)
def kTr (s : kVS) (b : Nat) : kVS := if s.2.1 < 30 then (kSet s.1 s.2.1 (nI b), s.2.1 + 1, s.2.2) else s
def kWk (sp : Nat → Nat → Int32 → kVS → Int32 × kVS) (K : Nat) (h n : Int32) (b : Nat) (x : Int32) (s : kVS) : Int32 × kVS :=
  if b = 10 then (x + h, s)
  else if b = 11 then ((sp K 0 x s).1 * 2, (sp K 0 x s).2)
  else if b = 12 then ((sp K 1 x s).1 - n, (sp K 1 x s).2)
  else if b = 13 then (if h = n then (0, (s.1, s.2.1, 1)) else (x / (h - n), s))
  else if b = 20 then ((sp 0 1 x s).1 + 1, (sp 0 1 x s).2)
  else if b = 21 then ((sp 0 3 x s).1 + (sp K 2 1 (sp 0 3 x s).2).1, (sp K 2 1 (sp 0 3 x s).2).2)
  else if b = 30 then ((sp 1 0 x s).1 * 3, (sp 1 0 x s).2)
  else if b = 31 then ((sp 1 2 x s).1 ^^^ h, (sp 1 2 x s).2)
  else if b = 40 then (0 - (sp 0 0 x s).1, (sp 0 0 x s).2)
  else if b = 41 then ((sp 0 2 (x + n) s).1, (sp 0 2 (x + n) s).2)
  else if b = 50 then ((sp 3 1 x s).1 / 2, (sp 3 1 x s).2)
  else if b = 51 then ((sp 3 2 x s).1 - (sp K 0 2 (sp 3 2 x s).2).1, (sp K 0 2 (sp 3 2 x s).2).2)
  else ((sp K 0 x s).1 - (sp 3 3 x (sp K 0 x s).2).1, (sp 3 3 x (sp K 0 x s).2).2)
def kSp (K : Nat) (h n : Int32) : Nat → Nat → Nat → Int32 → kVS → Int32 × kVS
  | 0, _, _, _, s => (0, s)
  | f + 1, fr, act, x, s => if ¬ s.2.2 = 0 then (0, s) else kWk (kSp K h n f) K h n (kBody fr act) x (kTr s (kBody fr act))
theorem kSp_y {K : Nat} {h n : Int32} {f fr act : Nat} {x : Int32} {s : kVS} (q : ¬ s.2.2 = 0) : kSp K h n (f + 1) fr act x s = (0, s) := if_pos q
theorem kSp_n {K : Nat} {h n : Int32} {f fr act : Nat} {x : Int32} {s : kVS} (q : s.2.2 = 0) : kSp K h n (f + 1) fr act x s = kWk (kSp K h n f) K h n (kBody fr act) x (kTr s (kBody fr act)) := if_neg (fun z => z q)
theorem kTr_2 (s : kVS) (b : Nat) : (kTr s b).2.2 = s.2.2 := by
  unfold kTr
  split <;> rfl
theorem kBody_l : ∀ fr, fr < 5 → ∀ act, act < 4 → kBody fr act = 10 ∨ kBody fr act = 11 ∨ kBody fr act = 12 ∨ kBody fr act = 13 ∨ kBody fr act = 20 ∨ kBody fr act = 21 ∨ kBody fr act = 30 ∨ kBody fr act = 31 ∨ kBody fr act = 40 ∨ kBody fr act = 41 ∨ kBody fr act = 50 ∨ kBody fr act = 51 ∨ kBody fr act = 52 := by decide
theorem kFu_8 : ∀ K, K < 5 → ∀ act, act < 4 → kFu K 8 K act = true := by decide
/-- the class's Voices, from a memory u on -/
def kSV (a k : Nat) : Prop := a = 397 ∨ a = 398
def kVX (u : KMem) (K : Nat) (h n : Int32) (s : kVS) (v : KMem) : Prop := kEq kSV u v ∧ v.2.1 397 1 = nI s.2.1 ∧ s.2.1 ≤ 30 ∧ (∀ k, k < s.2.1 → v.2.1 398 k = s.1 k) ∧ v.2.1 397 2 = s.2.2 ∧ (s.2.2 = 0 ∨ s.2.2 = 1) ∧ v.2.1 397 3 = nI K ∧ v.2.1 397 4 = n ∧ v.2.1 397 5 = h
set_option maxRecDepth 20000 in
set_option maxHeartbeats 4000000 in
theorem qX10_bodyOf_0_0 {w : KW} {l : Launch} {u : KMem} (hu : kWd u) : KC w l mX10_bodyOf 0 0 0 [.int 0, .int 0] u (kq (some (.int 10)) u) := by
  refine KC.of (ls := [_, _, _, _]) rfl rfl (Nat.le_of_ble_eq_true rfl) ?_
  refine kv_iload_n dX10_bodyOf_0 rfl ?_
  refine kv_istore_n (ls2 := [_, _, _, _]) dX10_bodyOf_1 rfl rfl rfl rfl ?_
  refine kv_iconst dX10_bodyOf_2 0 ki_0 ?_
  refine kv_istore_n (ls2 := [_, _, _, _]) dX10_bodyOf_3 rfl rfl rfl rfl ?_
  refine kv_iload_n dX10_bodyOf_4 rfl ?_
  refine kv_iconst dX10_bodyOf_5 5 ki_5 ?_
  refine kv_icmp_ge dX10_bodyOf_6 52 (by decide) (fun h1 => ?_) (fun h1 => ?_)
  · exact absurd h1 (by decide)
  · refine kv_iload_n dX10_bodyOf_9 rfl ?_
    refine kv_if_le dX10_bodyOf_10 52 (by decide) (fun h2 => ?_) (fun h2 => ?_)
    · refine kv_gets 5 dX10_bodyOf_52 rfl rfl sX10_44 ?_
      refine kv_iload_n dX10_bodyOf_55 rfl ?_
      refine kv_ildC (k := 0) dX10_bodyOf_56 rfl rfl rfl (show (0 : Int32) = nI 0 from rfl) (by decide) rfl ?_
      rw [show (([10, 11, 12, 13, 0, 20, 0, 21, 30, 0, 31, 0, 40, 0, 41, 0, 0, 50, 51, 52] : List Int32).getD 0 0) = 10 from rfl]
      exact kv_iret dX10_bodyOf_57 rfl ⟨rfl, rfl⟩
    · exact absurd h2 (by decide)

set_option maxRecDepth 20000 in
set_option maxHeartbeats 4000000 in
theorem qX10_bodyOf_0_1 {w : KW} {l : Launch} {u : KMem} (hu : kWd u) : KC w l mX10_bodyOf 0 0 0 [.int 0, .int 1] u (kq (some (.int 11)) u) := by
  refine KC.of (ls := [_, _, _, _]) rfl rfl (Nat.le_of_ble_eq_true rfl) ?_
  refine kv_iload_n dX10_bodyOf_0 rfl ?_
  refine kv_istore_n (ls2 := [_, _, _, _]) dX10_bodyOf_1 rfl rfl rfl rfl ?_
  refine kv_iconst dX10_bodyOf_2 0 ki_0 ?_
  refine kv_istore_n (ls2 := [_, _, _, _]) dX10_bodyOf_3 rfl rfl rfl rfl ?_
  refine kv_iload_n dX10_bodyOf_4 rfl ?_
  refine kv_iconst dX10_bodyOf_5 5 ki_5 ?_
  refine kv_icmp_ge dX10_bodyOf_6 52 (by decide) (fun h1 => ?_) (fun h1 => ?_)
  · exact absurd h1 (by decide)
  · refine kv_iload_n dX10_bodyOf_9 rfl ?_
    refine kv_if_le dX10_bodyOf_10 52 (by decide) (fun h2 => ?_) (fun h2 => ?_)
    · refine kv_gets 5 dX10_bodyOf_52 rfl rfl sX10_44 ?_
      refine kv_iload_n dX10_bodyOf_55 rfl ?_
      refine kv_ildC (k := 1) dX10_bodyOf_56 rfl rfl rfl (show (1 : Int32) = nI 1 from rfl) (by decide) rfl ?_
      rw [show (([10, 11, 12, 13, 0, 20, 0, 21, 30, 0, 31, 0, 40, 0, 41, 0, 0, 50, 51, 52] : List Int32).getD 1 0) = 11 from rfl]
      exact kv_iret dX10_bodyOf_57 rfl ⟨rfl, rfl⟩
    · exact absurd h2 (by decide)

set_option maxRecDepth 20000 in
set_option maxHeartbeats 4000000 in
theorem qX10_bodyOf_0_2 {w : KW} {l : Launch} {u : KMem} (hu : kWd u) : KC w l mX10_bodyOf 0 0 0 [.int 0, .int 2] u (kq (some (.int 12)) u) := by
  refine KC.of (ls := [_, _, _, _]) rfl rfl (Nat.le_of_ble_eq_true rfl) ?_
  refine kv_iload_n dX10_bodyOf_0 rfl ?_
  refine kv_istore_n (ls2 := [_, _, _, _]) dX10_bodyOf_1 rfl rfl rfl rfl ?_
  refine kv_iconst dX10_bodyOf_2 0 ki_0 ?_
  refine kv_istore_n (ls2 := [_, _, _, _]) dX10_bodyOf_3 rfl rfl rfl rfl ?_
  refine kv_iload_n dX10_bodyOf_4 rfl ?_
  refine kv_iconst dX10_bodyOf_5 5 ki_5 ?_
  refine kv_icmp_ge dX10_bodyOf_6 52 (by decide) (fun h1 => ?_) (fun h1 => ?_)
  · exact absurd h1 (by decide)
  · refine kv_iload_n dX10_bodyOf_9 rfl ?_
    refine kv_if_le dX10_bodyOf_10 52 (by decide) (fun h2 => ?_) (fun h2 => ?_)
    · refine kv_gets 5 dX10_bodyOf_52 rfl rfl sX10_44 ?_
      refine kv_iload_n dX10_bodyOf_55 rfl ?_
      refine kv_ildC (k := 2) dX10_bodyOf_56 rfl rfl rfl (show (2 : Int32) = nI 2 from rfl) (by decide) rfl ?_
      rw [show (([10, 11, 12, 13, 0, 20, 0, 21, 30, 0, 31, 0, 40, 0, 41, 0, 0, 50, 51, 52] : List Int32).getD 2 0) = 12 from rfl]
      exact kv_iret dX10_bodyOf_57 rfl ⟨rfl, rfl⟩
    · exact absurd h2 (by decide)

set_option maxRecDepth 20000 in
set_option maxHeartbeats 4000000 in
theorem qX10_bodyOf_0_3 {w : KW} {l : Launch} {u : KMem} (hu : kWd u) : KC w l mX10_bodyOf 0 0 0 [.int 0, .int 3] u (kq (some (.int 13)) u) := by
  refine KC.of (ls := [_, _, _, _]) rfl rfl (Nat.le_of_ble_eq_true rfl) ?_
  refine kv_iload_n dX10_bodyOf_0 rfl ?_
  refine kv_istore_n (ls2 := [_, _, _, _]) dX10_bodyOf_1 rfl rfl rfl rfl ?_
  refine kv_iconst dX10_bodyOf_2 0 ki_0 ?_
  refine kv_istore_n (ls2 := [_, _, _, _]) dX10_bodyOf_3 rfl rfl rfl rfl ?_
  refine kv_iload_n dX10_bodyOf_4 rfl ?_
  refine kv_iconst dX10_bodyOf_5 5 ki_5 ?_
  refine kv_icmp_ge dX10_bodyOf_6 52 (by decide) (fun h1 => ?_) (fun h1 => ?_)
  · exact absurd h1 (by decide)
  · refine kv_iload_n dX10_bodyOf_9 rfl ?_
    refine kv_if_le dX10_bodyOf_10 52 (by decide) (fun h2 => ?_) (fun h2 => ?_)
    · refine kv_gets 5 dX10_bodyOf_52 rfl rfl sX10_44 ?_
      refine kv_iload_n dX10_bodyOf_55 rfl ?_
      refine kv_ildC (k := 3) dX10_bodyOf_56 rfl rfl rfl (show (3 : Int32) = nI 3 from rfl) (by decide) rfl ?_
      rw [show (([10, 11, 12, 13, 0, 20, 0, 21, 30, 0, 31, 0, 40, 0, 41, 0, 0, 50, 51, 52] : List Int32).getD 3 0) = 13 from rfl]
      exact kv_iret dX10_bodyOf_57 rfl ⟨rfl, rfl⟩
    · exact absurd h2 (by decide)

set_option maxRecDepth 20000 in
set_option maxHeartbeats 4000000 in
theorem qX10_bodyOf_1_0 {w : KW} {l : Launch} {u : KMem} (hu : kWd u) : KC w l mX10_bodyOf 0 0 0 [.int 1, .int 0] u (kq (some (.int 10)) u) := by
  refine KC.of (ls := [_, _, _, _]) rfl rfl (Nat.le_of_ble_eq_true rfl) ?_
  refine kv_iload_n dX10_bodyOf_0 rfl ?_
  refine kv_istore_n (ls2 := [_, _, _, _]) dX10_bodyOf_1 rfl rfl rfl rfl ?_
  refine kv_iconst dX10_bodyOf_2 0 ki_0 ?_
  refine kv_istore_n (ls2 := [_, _, _, _]) dX10_bodyOf_3 rfl rfl rfl rfl ?_
  refine kv_iload_n dX10_bodyOf_4 rfl ?_
  refine kv_iconst dX10_bodyOf_5 5 ki_5 ?_
  refine kv_icmp_ge dX10_bodyOf_6 52 (by decide) (fun h1 => ?_) (fun h1 => ?_)
  · exact absurd h1 (by decide)
  · refine kv_iload_n dX10_bodyOf_9 rfl ?_
    refine kv_if_le dX10_bodyOf_10 52 (by decide) (fun h2 => ?_) (fun h2 => ?_)
    · exact absurd h2 (by decide)
    · refine kv_iload_n dX10_bodyOf_13 rfl ?_
      refine kv_iconst dX10_bodyOf_14 5 ki_5 ?_
      refine kv_icmp_ge dX10_bodyOf_15 52 (by decide) (fun h3 => ?_) (fun h3 => ?_)
      · exact absurd h3 (by decide)
      · refine kv_gets 5 dX10_bodyOf_18 rfl rfl sX10_44 ?_
        refine kv_iload_n dX10_bodyOf_21 rfl ?_
        refine kv_iconst dX10_bodyOf_22 4 ki_4 ?_
        refine kv_imul dX10_bodyOf_23 ?_
        rw [show ((1 : Int32) * 4) = 4 from rfl]
        refine kv_iload_n dX10_bodyOf_24 rfl ?_
        refine kv_iadd dX10_bodyOf_25 ?_
        rw [show ((4 : Int32) + 0) = 4 from rfl]
        refine kv_ildC (k := 4) dX10_bodyOf_26 rfl rfl rfl (show (4 : Int32) = nI 4 from rfl) (by decide) rfl ?_
        rw [show (([10, 11, 12, 13, 0, 20, 0, 21, 30, 0, 31, 0, 40, 0, 41, 0, 0, 50, 51, 52] : List Int32).getD 4 0) = 0 from rfl]
        refine kv_if_eq dX10_bodyOf_27 40 (by decide) (fun h4 => ?_) (fun h4 => ?_)
        · refine kv_getsN 4 dX10_bodyOf_40 rfl rfl (by decide +kernel) ?_
          refine kv_iload_n dX10_bodyOf_43 rfl ?_
          refine kv_ildC (k := 1) dX10_bodyOf_44 rfl rfl rfl (show (1 : Int32) = nI 1 from rfl) (by decide) rfl ?_
          rw [show (([-1, 0, 1, 0, 3] : List Int32).getD 1 0) = 0 from rfl]
          refine kv_istore_n (ls2 := [_, _, _, _]) dX10_bodyOf_45 rfl rfl rfl rfl ?_
          refine kv_iinc (ls2 := [_, _, _, _]) dX10_bodyOf_46 (1 : Int32) rfl rfl rfl rfl rfl rfl ?_
          refine kv_goto dX10_bodyOf_49 4 (by decide) ?_
          refine kv_iload_n dX10_bodyOf_4 rfl ?_
          refine kv_iconst dX10_bodyOf_5 5 ki_5 ?_
          refine kv_icmp_ge dX10_bodyOf_6 52 (by decide) (fun h5 => ?_) (fun h5 => ?_)
          · exact absurd h5 (by decide)
          · refine kv_iload_n dX10_bodyOf_9 rfl ?_
            refine kv_if_le dX10_bodyOf_10 52 (by decide) (fun h6 => ?_) (fun h6 => ?_)
            · refine kv_gets 5 dX10_bodyOf_52 rfl rfl sX10_44 ?_
              refine kv_iload_n dX10_bodyOf_55 rfl ?_
              refine kv_ildC (k := 0) dX10_bodyOf_56 rfl rfl rfl (show (0 : Int32) = nI 0 from rfl) (by decide) rfl ?_
              rw [show (([10, 11, 12, 13, 0, 20, 0, 21, 30, 0, 31, 0, 40, 0, 41, 0, 0, 50, 51, 52] : List Int32).getD 0 0) = 10 from rfl]
              exact kv_iret dX10_bodyOf_57 rfl ⟨rfl, rfl⟩
            · exact absurd h6 (by decide)
        · exact absurd h4 (by decide)

set_option maxRecDepth 20000 in
set_option maxHeartbeats 4000000 in
theorem qX10_bodyOf_1_1 {w : KW} {l : Launch} {u : KMem} (hu : kWd u) : KC w l mX10_bodyOf 0 0 0 [.int 1, .int 1] u (kq (some (.int 20)) u) := by
  refine KC.of (ls := [_, _, _, _]) rfl rfl (Nat.le_of_ble_eq_true rfl) ?_
  refine kv_iload_n dX10_bodyOf_0 rfl ?_
  refine kv_istore_n (ls2 := [_, _, _, _]) dX10_bodyOf_1 rfl rfl rfl rfl ?_
  refine kv_iconst dX10_bodyOf_2 0 ki_0 ?_
  refine kv_istore_n (ls2 := [_, _, _, _]) dX10_bodyOf_3 rfl rfl rfl rfl ?_
  refine kv_iload_n dX10_bodyOf_4 rfl ?_
  refine kv_iconst dX10_bodyOf_5 5 ki_5 ?_
  refine kv_icmp_ge dX10_bodyOf_6 52 (by decide) (fun h1 => ?_) (fun h1 => ?_)
  · exact absurd h1 (by decide)
  · refine kv_iload_n dX10_bodyOf_9 rfl ?_
    refine kv_if_le dX10_bodyOf_10 52 (by decide) (fun h2 => ?_) (fun h2 => ?_)
    · exact absurd h2 (by decide)
    · refine kv_iload_n dX10_bodyOf_13 rfl ?_
      refine kv_iconst dX10_bodyOf_14 5 ki_5 ?_
      refine kv_icmp_ge dX10_bodyOf_15 52 (by decide) (fun h3 => ?_) (fun h3 => ?_)
      · exact absurd h3 (by decide)
      · refine kv_gets 5 dX10_bodyOf_18 rfl rfl sX10_44 ?_
        refine kv_iload_n dX10_bodyOf_21 rfl ?_
        refine kv_iconst dX10_bodyOf_22 4 ki_4 ?_
        refine kv_imul dX10_bodyOf_23 ?_
        rw [show ((1 : Int32) * 4) = 4 from rfl]
        refine kv_iload_n dX10_bodyOf_24 rfl ?_
        refine kv_iadd dX10_bodyOf_25 ?_
        rw [show ((4 : Int32) + 1) = 5 from rfl]
        refine kv_ildC (k := 5) dX10_bodyOf_26 rfl rfl rfl (show (5 : Int32) = nI 5 from rfl) (by decide) rfl ?_
        rw [show (([10, 11, 12, 13, 0, 20, 0, 21, 30, 0, 31, 0, 40, 0, 41, 0, 0, 50, 51, 52] : List Int32).getD 5 0) = 20 from rfl]
        refine kv_if_eq dX10_bodyOf_27 40 (by decide) (fun h4 => ?_) (fun h4 => ?_)
        · exact absurd h4 (by decide)
        · refine kv_gets 5 dX10_bodyOf_30 rfl rfl sX10_44 ?_
          refine kv_iload_n dX10_bodyOf_33 rfl ?_
          refine kv_iconst dX10_bodyOf_34 4 ki_4 ?_
          refine kv_imul dX10_bodyOf_35 ?_
          rw [show ((1 : Int32) * 4) = 4 from rfl]
          refine kv_iload_n dX10_bodyOf_36 rfl ?_
          refine kv_iadd dX10_bodyOf_37 ?_
          rw [show ((4 : Int32) + 1) = 5 from rfl]
          refine kv_ildC (k := 5) dX10_bodyOf_38 rfl rfl rfl (show (5 : Int32) = nI 5 from rfl) (by decide) rfl ?_
          rw [show (([10, 11, 12, 13, 0, 20, 0, 21, 30, 0, 31, 0, 40, 0, 41, 0, 0, 50, 51, 52] : List Int32).getD 5 0) = 20 from rfl]
          exact kv_iret dX10_bodyOf_39 rfl ⟨rfl, rfl⟩

set_option maxRecDepth 20000 in
set_option maxHeartbeats 4000000 in
theorem qX10_bodyOf_1_2 {w : KW} {l : Launch} {u : KMem} (hu : kWd u) : KC w l mX10_bodyOf 0 0 0 [.int 1, .int 2] u (kq (some (.int 12)) u) := by
  refine KC.of (ls := [_, _, _, _]) rfl rfl (Nat.le_of_ble_eq_true rfl) ?_
  refine kv_iload_n dX10_bodyOf_0 rfl ?_
  refine kv_istore_n (ls2 := [_, _, _, _]) dX10_bodyOf_1 rfl rfl rfl rfl ?_
  refine kv_iconst dX10_bodyOf_2 0 ki_0 ?_
  refine kv_istore_n (ls2 := [_, _, _, _]) dX10_bodyOf_3 rfl rfl rfl rfl ?_
  refine kv_iload_n dX10_bodyOf_4 rfl ?_
  refine kv_iconst dX10_bodyOf_5 5 ki_5 ?_
  refine kv_icmp_ge dX10_bodyOf_6 52 (by decide) (fun h1 => ?_) (fun h1 => ?_)
  · exact absurd h1 (by decide)
  · refine kv_iload_n dX10_bodyOf_9 rfl ?_
    refine kv_if_le dX10_bodyOf_10 52 (by decide) (fun h2 => ?_) (fun h2 => ?_)
    · exact absurd h2 (by decide)
    · refine kv_iload_n dX10_bodyOf_13 rfl ?_
      refine kv_iconst dX10_bodyOf_14 5 ki_5 ?_
      refine kv_icmp_ge dX10_bodyOf_15 52 (by decide) (fun h3 => ?_) (fun h3 => ?_)
      · exact absurd h3 (by decide)
      · refine kv_gets 5 dX10_bodyOf_18 rfl rfl sX10_44 ?_
        refine kv_iload_n dX10_bodyOf_21 rfl ?_
        refine kv_iconst dX10_bodyOf_22 4 ki_4 ?_
        refine kv_imul dX10_bodyOf_23 ?_
        rw [show ((1 : Int32) * 4) = 4 from rfl]
        refine kv_iload_n dX10_bodyOf_24 rfl ?_
        refine kv_iadd dX10_bodyOf_25 ?_
        rw [show ((4 : Int32) + 2) = 6 from rfl]
        refine kv_ildC (k := 6) dX10_bodyOf_26 rfl rfl rfl (show (6 : Int32) = nI 6 from rfl) (by decide) rfl ?_
        rw [show (([10, 11, 12, 13, 0, 20, 0, 21, 30, 0, 31, 0, 40, 0, 41, 0, 0, 50, 51, 52] : List Int32).getD 6 0) = 0 from rfl]
        refine kv_if_eq dX10_bodyOf_27 40 (by decide) (fun h4 => ?_) (fun h4 => ?_)
        · refine kv_getsN 4 dX10_bodyOf_40 rfl rfl (by decide +kernel) ?_
          refine kv_iload_n dX10_bodyOf_43 rfl ?_
          refine kv_ildC (k := 1) dX10_bodyOf_44 rfl rfl rfl (show (1 : Int32) = nI 1 from rfl) (by decide) rfl ?_
          rw [show (([-1, 0, 1, 0, 3] : List Int32).getD 1 0) = 0 from rfl]
          refine kv_istore_n (ls2 := [_, _, _, _]) dX10_bodyOf_45 rfl rfl rfl rfl ?_
          refine kv_iinc (ls2 := [_, _, _, _]) dX10_bodyOf_46 (1 : Int32) rfl rfl rfl rfl rfl rfl ?_
          refine kv_goto dX10_bodyOf_49 4 (by decide) ?_
          refine kv_iload_n dX10_bodyOf_4 rfl ?_
          refine kv_iconst dX10_bodyOf_5 5 ki_5 ?_
          refine kv_icmp_ge dX10_bodyOf_6 52 (by decide) (fun h5 => ?_) (fun h5 => ?_)
          · exact absurd h5 (by decide)
          · refine kv_iload_n dX10_bodyOf_9 rfl ?_
            refine kv_if_le dX10_bodyOf_10 52 (by decide) (fun h6 => ?_) (fun h6 => ?_)
            · refine kv_gets 5 dX10_bodyOf_52 rfl rfl sX10_44 ?_
              refine kv_iload_n dX10_bodyOf_55 rfl ?_
              refine kv_ildC (k := 2) dX10_bodyOf_56 rfl rfl rfl (show (2 : Int32) = nI 2 from rfl) (by decide) rfl ?_
              rw [show (([10, 11, 12, 13, 0, 20, 0, 21, 30, 0, 31, 0, 40, 0, 41, 0, 0, 50, 51, 52] : List Int32).getD 2 0) = 12 from rfl]
              exact kv_iret dX10_bodyOf_57 rfl ⟨rfl, rfl⟩
            · exact absurd h6 (by decide)
        · exact absurd h4 (by decide)

set_option maxRecDepth 20000 in
set_option maxHeartbeats 4000000 in
theorem qX10_bodyOf_1_3 {w : KW} {l : Launch} {u : KMem} (hu : kWd u) : KC w l mX10_bodyOf 0 0 0 [.int 1, .int 3] u (kq (some (.int 21)) u) := by
  refine KC.of (ls := [_, _, _, _]) rfl rfl (Nat.le_of_ble_eq_true rfl) ?_
  refine kv_iload_n dX10_bodyOf_0 rfl ?_
  refine kv_istore_n (ls2 := [_, _, _, _]) dX10_bodyOf_1 rfl rfl rfl rfl ?_
  refine kv_iconst dX10_bodyOf_2 0 ki_0 ?_
  refine kv_istore_n (ls2 := [_, _, _, _]) dX10_bodyOf_3 rfl rfl rfl rfl ?_
  refine kv_iload_n dX10_bodyOf_4 rfl ?_
  refine kv_iconst dX10_bodyOf_5 5 ki_5 ?_
  refine kv_icmp_ge dX10_bodyOf_6 52 (by decide) (fun h1 => ?_) (fun h1 => ?_)
  · exact absurd h1 (by decide)
  · refine kv_iload_n dX10_bodyOf_9 rfl ?_
    refine kv_if_le dX10_bodyOf_10 52 (by decide) (fun h2 => ?_) (fun h2 => ?_)
    · exact absurd h2 (by decide)
    · refine kv_iload_n dX10_bodyOf_13 rfl ?_
      refine kv_iconst dX10_bodyOf_14 5 ki_5 ?_
      refine kv_icmp_ge dX10_bodyOf_15 52 (by decide) (fun h3 => ?_) (fun h3 => ?_)
      · exact absurd h3 (by decide)
      · refine kv_gets 5 dX10_bodyOf_18 rfl rfl sX10_44 ?_
        refine kv_iload_n dX10_bodyOf_21 rfl ?_
        refine kv_iconst dX10_bodyOf_22 4 ki_4 ?_
        refine kv_imul dX10_bodyOf_23 ?_
        rw [show ((1 : Int32) * 4) = 4 from rfl]
        refine kv_iload_n dX10_bodyOf_24 rfl ?_
        refine kv_iadd dX10_bodyOf_25 ?_
        rw [show ((4 : Int32) + 3) = 7 from rfl]
        refine kv_ildC (k := 7) dX10_bodyOf_26 rfl rfl rfl (show (7 : Int32) = nI 7 from rfl) (by decide) rfl ?_
        rw [show (([10, 11, 12, 13, 0, 20, 0, 21, 30, 0, 31, 0, 40, 0, 41, 0, 0, 50, 51, 52] : List Int32).getD 7 0) = 21 from rfl]
        refine kv_if_eq dX10_bodyOf_27 40 (by decide) (fun h4 => ?_) (fun h4 => ?_)
        · exact absurd h4 (by decide)
        · refine kv_gets 5 dX10_bodyOf_30 rfl rfl sX10_44 ?_
          refine kv_iload_n dX10_bodyOf_33 rfl ?_
          refine kv_iconst dX10_bodyOf_34 4 ki_4 ?_
          refine kv_imul dX10_bodyOf_35 ?_
          rw [show ((1 : Int32) * 4) = 4 from rfl]
          refine kv_iload_n dX10_bodyOf_36 rfl ?_
          refine kv_iadd dX10_bodyOf_37 ?_
          rw [show ((4 : Int32) + 3) = 7 from rfl]
          refine kv_ildC (k := 7) dX10_bodyOf_38 rfl rfl rfl (show (7 : Int32) = nI 7 from rfl) (by decide) rfl ?_
          rw [show (([10, 11, 12, 13, 0, 20, 0, 21, 30, 0, 31, 0, 40, 0, 41, 0, 0, 50, 51, 52] : List Int32).getD 7 0) = 21 from rfl]
          exact kv_iret dX10_bodyOf_39 rfl ⟨rfl, rfl⟩

set_option maxRecDepth 20000 in
set_option maxHeartbeats 4000000 in
theorem qX10_bodyOf_2_0 {w : KW} {l : Launch} {u : KMem} (hu : kWd u) : KC w l mX10_bodyOf 0 0 0 [.int 2, .int 0] u (kq (some (.int 30)) u) := by
  refine KC.of (ls := [_, _, _, _]) rfl rfl (Nat.le_of_ble_eq_true rfl) ?_
  refine kv_iload_n dX10_bodyOf_0 rfl ?_
  refine kv_istore_n (ls2 := [_, _, _, _]) dX10_bodyOf_1 rfl rfl rfl rfl ?_
  refine kv_iconst dX10_bodyOf_2 0 ki_0 ?_
  refine kv_istore_n (ls2 := [_, _, _, _]) dX10_bodyOf_3 rfl rfl rfl rfl ?_
  refine kv_iload_n dX10_bodyOf_4 rfl ?_
  refine kv_iconst dX10_bodyOf_5 5 ki_5 ?_
  refine kv_icmp_ge dX10_bodyOf_6 52 (by decide) (fun h1 => ?_) (fun h1 => ?_)
  · exact absurd h1 (by decide)
  · refine kv_iload_n dX10_bodyOf_9 rfl ?_
    refine kv_if_le dX10_bodyOf_10 52 (by decide) (fun h2 => ?_) (fun h2 => ?_)
    · exact absurd h2 (by decide)
    · refine kv_iload_n dX10_bodyOf_13 rfl ?_
      refine kv_iconst dX10_bodyOf_14 5 ki_5 ?_
      refine kv_icmp_ge dX10_bodyOf_15 52 (by decide) (fun h3 => ?_) (fun h3 => ?_)
      · exact absurd h3 (by decide)
      · refine kv_gets 5 dX10_bodyOf_18 rfl rfl sX10_44 ?_
        refine kv_iload_n dX10_bodyOf_21 rfl ?_
        refine kv_iconst dX10_bodyOf_22 4 ki_4 ?_
        refine kv_imul dX10_bodyOf_23 ?_
        rw [show ((2 : Int32) * 4) = 8 from rfl]
        refine kv_iload_n dX10_bodyOf_24 rfl ?_
        refine kv_iadd dX10_bodyOf_25 ?_
        rw [show ((8 : Int32) + 0) = 8 from rfl]
        refine kv_ildC (k := 8) dX10_bodyOf_26 rfl rfl rfl (show (8 : Int32) = nI 8 from rfl) (by decide) rfl ?_
        rw [show (([10, 11, 12, 13, 0, 20, 0, 21, 30, 0, 31, 0, 40, 0, 41, 0, 0, 50, 51, 52] : List Int32).getD 8 0) = 30 from rfl]
        refine kv_if_eq dX10_bodyOf_27 40 (by decide) (fun h4 => ?_) (fun h4 => ?_)
        · exact absurd h4 (by decide)
        · refine kv_gets 5 dX10_bodyOf_30 rfl rfl sX10_44 ?_
          refine kv_iload_n dX10_bodyOf_33 rfl ?_
          refine kv_iconst dX10_bodyOf_34 4 ki_4 ?_
          refine kv_imul dX10_bodyOf_35 ?_
          rw [show ((2 : Int32) * 4) = 8 from rfl]
          refine kv_iload_n dX10_bodyOf_36 rfl ?_
          refine kv_iadd dX10_bodyOf_37 ?_
          rw [show ((8 : Int32) + 0) = 8 from rfl]
          refine kv_ildC (k := 8) dX10_bodyOf_38 rfl rfl rfl (show (8 : Int32) = nI 8 from rfl) (by decide) rfl ?_
          rw [show (([10, 11, 12, 13, 0, 20, 0, 21, 30, 0, 31, 0, 40, 0, 41, 0, 0, 50, 51, 52] : List Int32).getD 8 0) = 30 from rfl]
          exact kv_iret dX10_bodyOf_39 rfl ⟨rfl, rfl⟩

set_option maxRecDepth 20000 in
set_option maxHeartbeats 4000000 in
theorem qX10_bodyOf_2_1 {w : KW} {l : Launch} {u : KMem} (hu : kWd u) : KC w l mX10_bodyOf 0 0 0 [.int 2, .int 1] u (kq (some (.int 20)) u) := by
  refine KC.of (ls := [_, _, _, _]) rfl rfl (Nat.le_of_ble_eq_true rfl) ?_
  refine kv_iload_n dX10_bodyOf_0 rfl ?_
  refine kv_istore_n (ls2 := [_, _, _, _]) dX10_bodyOf_1 rfl rfl rfl rfl ?_
  refine kv_iconst dX10_bodyOf_2 0 ki_0 ?_
  refine kv_istore_n (ls2 := [_, _, _, _]) dX10_bodyOf_3 rfl rfl rfl rfl ?_
  refine kv_iload_n dX10_bodyOf_4 rfl ?_
  refine kv_iconst dX10_bodyOf_5 5 ki_5 ?_
  refine kv_icmp_ge dX10_bodyOf_6 52 (by decide) (fun h1 => ?_) (fun h1 => ?_)
  · exact absurd h1 (by decide)
  · refine kv_iload_n dX10_bodyOf_9 rfl ?_
    refine kv_if_le dX10_bodyOf_10 52 (by decide) (fun h2 => ?_) (fun h2 => ?_)
    · exact absurd h2 (by decide)
    · refine kv_iload_n dX10_bodyOf_13 rfl ?_
      refine kv_iconst dX10_bodyOf_14 5 ki_5 ?_
      refine kv_icmp_ge dX10_bodyOf_15 52 (by decide) (fun h3 => ?_) (fun h3 => ?_)
      · exact absurd h3 (by decide)
      · refine kv_gets 5 dX10_bodyOf_18 rfl rfl sX10_44 ?_
        refine kv_iload_n dX10_bodyOf_21 rfl ?_
        refine kv_iconst dX10_bodyOf_22 4 ki_4 ?_
        refine kv_imul dX10_bodyOf_23 ?_
        rw [show ((2 : Int32) * 4) = 8 from rfl]
        refine kv_iload_n dX10_bodyOf_24 rfl ?_
        refine kv_iadd dX10_bodyOf_25 ?_
        rw [show ((8 : Int32) + 1) = 9 from rfl]
        refine kv_ildC (k := 9) dX10_bodyOf_26 rfl rfl rfl (show (9 : Int32) = nI 9 from rfl) (by decide) rfl ?_
        rw [show (([10, 11, 12, 13, 0, 20, 0, 21, 30, 0, 31, 0, 40, 0, 41, 0, 0, 50, 51, 52] : List Int32).getD 9 0) = 0 from rfl]
        refine kv_if_eq dX10_bodyOf_27 40 (by decide) (fun h4 => ?_) (fun h4 => ?_)
        · refine kv_getsN 4 dX10_bodyOf_40 rfl rfl (by decide +kernel) ?_
          refine kv_iload_n dX10_bodyOf_43 rfl ?_
          refine kv_ildC (k := 2) dX10_bodyOf_44 rfl rfl rfl (show (2 : Int32) = nI 2 from rfl) (by decide) rfl ?_
          rw [show (([-1, 0, 1, 0, 3] : List Int32).getD 2 0) = 1 from rfl]
          refine kv_istore_n (ls2 := [_, _, _, _]) dX10_bodyOf_45 rfl rfl rfl rfl ?_
          refine kv_iinc (ls2 := [_, _, _, _]) dX10_bodyOf_46 (1 : Int32) rfl rfl rfl rfl rfl rfl ?_
          refine kv_goto dX10_bodyOf_49 4 (by decide) ?_
          refine kv_iload_n dX10_bodyOf_4 rfl ?_
          refine kv_iconst dX10_bodyOf_5 5 ki_5 ?_
          refine kv_icmp_ge dX10_bodyOf_6 52 (by decide) (fun h5 => ?_) (fun h5 => ?_)
          · exact absurd h5 (by decide)
          · refine kv_iload_n dX10_bodyOf_9 rfl ?_
            refine kv_if_le dX10_bodyOf_10 52 (by decide) (fun h6 => ?_) (fun h6 => ?_)
            · exact absurd h6 (by decide)
            · refine kv_iload_n dX10_bodyOf_13 rfl ?_
              refine kv_iconst dX10_bodyOf_14 5 ki_5 ?_
              refine kv_icmp_ge dX10_bodyOf_15 52 (by decide) (fun h7 => ?_) (fun h7 => ?_)
              · exact absurd h7 (by decide)
              · refine kv_gets 5 dX10_bodyOf_18 rfl rfl sX10_44 ?_
                refine kv_iload_n dX10_bodyOf_21 rfl ?_
                refine kv_iconst dX10_bodyOf_22 4 ki_4 ?_
                refine kv_imul dX10_bodyOf_23 ?_
                rw [show ((1 : Int32) * 4) = 4 from rfl]
                refine kv_iload_n dX10_bodyOf_24 rfl ?_
                refine kv_iadd dX10_bodyOf_25 ?_
                rw [show ((4 : Int32) + 1) = 5 from rfl]
                refine kv_ildC (k := 5) dX10_bodyOf_26 rfl rfl rfl (show (5 : Int32) = nI 5 from rfl) (by decide) rfl ?_
                rw [show (([10, 11, 12, 13, 0, 20, 0, 21, 30, 0, 31, 0, 40, 0, 41, 0, 0, 50, 51, 52] : List Int32).getD 5 0) = 20 from rfl]
                refine kv_if_eq dX10_bodyOf_27 40 (by decide) (fun h8 => ?_) (fun h8 => ?_)
                · exact absurd h8 (by decide)
                · refine kv_gets 5 dX10_bodyOf_30 rfl rfl sX10_44 ?_
                  refine kv_iload_n dX10_bodyOf_33 rfl ?_
                  refine kv_iconst dX10_bodyOf_34 4 ki_4 ?_
                  refine kv_imul dX10_bodyOf_35 ?_
                  rw [show ((1 : Int32) * 4) = 4 from rfl]
                  refine kv_iload_n dX10_bodyOf_36 rfl ?_
                  refine kv_iadd dX10_bodyOf_37 ?_
                  rw [show ((4 : Int32) + 1) = 5 from rfl]
                  refine kv_ildC (k := 5) dX10_bodyOf_38 rfl rfl rfl (show (5 : Int32) = nI 5 from rfl) (by decide) rfl ?_
                  rw [show (([10, 11, 12, 13, 0, 20, 0, 21, 30, 0, 31, 0, 40, 0, 41, 0, 0, 50, 51, 52] : List Int32).getD 5 0) = 20 from rfl]
                  exact kv_iret dX10_bodyOf_39 rfl ⟨rfl, rfl⟩
        · exact absurd h4 (by decide)

set_option maxRecDepth 20000 in
set_option maxHeartbeats 4000000 in
theorem qX10_bodyOf_2_2 {w : KW} {l : Launch} {u : KMem} (hu : kWd u) : KC w l mX10_bodyOf 0 0 0 [.int 2, .int 2] u (kq (some (.int 31)) u) := by
  refine KC.of (ls := [_, _, _, _]) rfl rfl (Nat.le_of_ble_eq_true rfl) ?_
  refine kv_iload_n dX10_bodyOf_0 rfl ?_
  refine kv_istore_n (ls2 := [_, _, _, _]) dX10_bodyOf_1 rfl rfl rfl rfl ?_
  refine kv_iconst dX10_bodyOf_2 0 ki_0 ?_
  refine kv_istore_n (ls2 := [_, _, _, _]) dX10_bodyOf_3 rfl rfl rfl rfl ?_
  refine kv_iload_n dX10_bodyOf_4 rfl ?_
  refine kv_iconst dX10_bodyOf_5 5 ki_5 ?_
  refine kv_icmp_ge dX10_bodyOf_6 52 (by decide) (fun h1 => ?_) (fun h1 => ?_)
  · exact absurd h1 (by decide)
  · refine kv_iload_n dX10_bodyOf_9 rfl ?_
    refine kv_if_le dX10_bodyOf_10 52 (by decide) (fun h2 => ?_) (fun h2 => ?_)
    · exact absurd h2 (by decide)
    · refine kv_iload_n dX10_bodyOf_13 rfl ?_
      refine kv_iconst dX10_bodyOf_14 5 ki_5 ?_
      refine kv_icmp_ge dX10_bodyOf_15 52 (by decide) (fun h3 => ?_) (fun h3 => ?_)
      · exact absurd h3 (by decide)
      · refine kv_gets 5 dX10_bodyOf_18 rfl rfl sX10_44 ?_
        refine kv_iload_n dX10_bodyOf_21 rfl ?_
        refine kv_iconst dX10_bodyOf_22 4 ki_4 ?_
        refine kv_imul dX10_bodyOf_23 ?_
        rw [show ((2 : Int32) * 4) = 8 from rfl]
        refine kv_iload_n dX10_bodyOf_24 rfl ?_
        refine kv_iadd dX10_bodyOf_25 ?_
        rw [show ((8 : Int32) + 2) = 10 from rfl]
        refine kv_ildC (k := 10) dX10_bodyOf_26 rfl rfl rfl (show (10 : Int32) = nI 10 from rfl) (by decide) rfl ?_
        rw [show (([10, 11, 12, 13, 0, 20, 0, 21, 30, 0, 31, 0, 40, 0, 41, 0, 0, 50, 51, 52] : List Int32).getD 10 0) = 31 from rfl]
        refine kv_if_eq dX10_bodyOf_27 40 (by decide) (fun h4 => ?_) (fun h4 => ?_)
        · exact absurd h4 (by decide)
        · refine kv_gets 5 dX10_bodyOf_30 rfl rfl sX10_44 ?_
          refine kv_iload_n dX10_bodyOf_33 rfl ?_
          refine kv_iconst dX10_bodyOf_34 4 ki_4 ?_
          refine kv_imul dX10_bodyOf_35 ?_
          rw [show ((2 : Int32) * 4) = 8 from rfl]
          refine kv_iload_n dX10_bodyOf_36 rfl ?_
          refine kv_iadd dX10_bodyOf_37 ?_
          rw [show ((8 : Int32) + 2) = 10 from rfl]
          refine kv_ildC (k := 10) dX10_bodyOf_38 rfl rfl rfl (show (10 : Int32) = nI 10 from rfl) (by decide) rfl ?_
          rw [show (([10, 11, 12, 13, 0, 20, 0, 21, 30, 0, 31, 0, 40, 0, 41, 0, 0, 50, 51, 52] : List Int32).getD 10 0) = 31 from rfl]
          exact kv_iret dX10_bodyOf_39 rfl ⟨rfl, rfl⟩

set_option maxRecDepth 20000 in
set_option maxHeartbeats 4000000 in
theorem qX10_bodyOf_2_3 {w : KW} {l : Launch} {u : KMem} (hu : kWd u) : KC w l mX10_bodyOf 0 0 0 [.int 2, .int 3] u (kq (some (.int 21)) u) := by
  refine KC.of (ls := [_, _, _, _]) rfl rfl (Nat.le_of_ble_eq_true rfl) ?_
  refine kv_iload_n dX10_bodyOf_0 rfl ?_
  refine kv_istore_n (ls2 := [_, _, _, _]) dX10_bodyOf_1 rfl rfl rfl rfl ?_
  refine kv_iconst dX10_bodyOf_2 0 ki_0 ?_
  refine kv_istore_n (ls2 := [_, _, _, _]) dX10_bodyOf_3 rfl rfl rfl rfl ?_
  refine kv_iload_n dX10_bodyOf_4 rfl ?_
  refine kv_iconst dX10_bodyOf_5 5 ki_5 ?_
  refine kv_icmp_ge dX10_bodyOf_6 52 (by decide) (fun h1 => ?_) (fun h1 => ?_)
  · exact absurd h1 (by decide)
  · refine kv_iload_n dX10_bodyOf_9 rfl ?_
    refine kv_if_le dX10_bodyOf_10 52 (by decide) (fun h2 => ?_) (fun h2 => ?_)
    · exact absurd h2 (by decide)
    · refine kv_iload_n dX10_bodyOf_13 rfl ?_
      refine kv_iconst dX10_bodyOf_14 5 ki_5 ?_
      refine kv_icmp_ge dX10_bodyOf_15 52 (by decide) (fun h3 => ?_) (fun h3 => ?_)
      · exact absurd h3 (by decide)
      · refine kv_gets 5 dX10_bodyOf_18 rfl rfl sX10_44 ?_
        refine kv_iload_n dX10_bodyOf_21 rfl ?_
        refine kv_iconst dX10_bodyOf_22 4 ki_4 ?_
        refine kv_imul dX10_bodyOf_23 ?_
        rw [show ((2 : Int32) * 4) = 8 from rfl]
        refine kv_iload_n dX10_bodyOf_24 rfl ?_
        refine kv_iadd dX10_bodyOf_25 ?_
        rw [show ((8 : Int32) + 3) = 11 from rfl]
        refine kv_ildC (k := 11) dX10_bodyOf_26 rfl rfl rfl (show (11 : Int32) = nI 11 from rfl) (by decide) rfl ?_
        rw [show (([10, 11, 12, 13, 0, 20, 0, 21, 30, 0, 31, 0, 40, 0, 41, 0, 0, 50, 51, 52] : List Int32).getD 11 0) = 0 from rfl]
        refine kv_if_eq dX10_bodyOf_27 40 (by decide) (fun h4 => ?_) (fun h4 => ?_)
        · refine kv_getsN 4 dX10_bodyOf_40 rfl rfl (by decide +kernel) ?_
          refine kv_iload_n dX10_bodyOf_43 rfl ?_
          refine kv_ildC (k := 2) dX10_bodyOf_44 rfl rfl rfl (show (2 : Int32) = nI 2 from rfl) (by decide) rfl ?_
          rw [show (([-1, 0, 1, 0, 3] : List Int32).getD 2 0) = 1 from rfl]
          refine kv_istore_n (ls2 := [_, _, _, _]) dX10_bodyOf_45 rfl rfl rfl rfl ?_
          refine kv_iinc (ls2 := [_, _, _, _]) dX10_bodyOf_46 (1 : Int32) rfl rfl rfl rfl rfl rfl ?_
          refine kv_goto dX10_bodyOf_49 4 (by decide) ?_
          refine kv_iload_n dX10_bodyOf_4 rfl ?_
          refine kv_iconst dX10_bodyOf_5 5 ki_5 ?_
          refine kv_icmp_ge dX10_bodyOf_6 52 (by decide) (fun h5 => ?_) (fun h5 => ?_)
          · exact absurd h5 (by decide)
          · refine kv_iload_n dX10_bodyOf_9 rfl ?_
            refine kv_if_le dX10_bodyOf_10 52 (by decide) (fun h6 => ?_) (fun h6 => ?_)
            · exact absurd h6 (by decide)
            · refine kv_iload_n dX10_bodyOf_13 rfl ?_
              refine kv_iconst dX10_bodyOf_14 5 ki_5 ?_
              refine kv_icmp_ge dX10_bodyOf_15 52 (by decide) (fun h7 => ?_) (fun h7 => ?_)
              · exact absurd h7 (by decide)
              · refine kv_gets 5 dX10_bodyOf_18 rfl rfl sX10_44 ?_
                refine kv_iload_n dX10_bodyOf_21 rfl ?_
                refine kv_iconst dX10_bodyOf_22 4 ki_4 ?_
                refine kv_imul dX10_bodyOf_23 ?_
                rw [show ((1 : Int32) * 4) = 4 from rfl]
                refine kv_iload_n dX10_bodyOf_24 rfl ?_
                refine kv_iadd dX10_bodyOf_25 ?_
                rw [show ((4 : Int32) + 3) = 7 from rfl]
                refine kv_ildC (k := 7) dX10_bodyOf_26 rfl rfl rfl (show (7 : Int32) = nI 7 from rfl) (by decide) rfl ?_
                rw [show (([10, 11, 12, 13, 0, 20, 0, 21, 30, 0, 31, 0, 40, 0, 41, 0, 0, 50, 51, 52] : List Int32).getD 7 0) = 21 from rfl]
                refine kv_if_eq dX10_bodyOf_27 40 (by decide) (fun h8 => ?_) (fun h8 => ?_)
                · exact absurd h8 (by decide)
                · refine kv_gets 5 dX10_bodyOf_30 rfl rfl sX10_44 ?_
                  refine kv_iload_n dX10_bodyOf_33 rfl ?_
                  refine kv_iconst dX10_bodyOf_34 4 ki_4 ?_
                  refine kv_imul dX10_bodyOf_35 ?_
                  rw [show ((1 : Int32) * 4) = 4 from rfl]
                  refine kv_iload_n dX10_bodyOf_36 rfl ?_
                  refine kv_iadd dX10_bodyOf_37 ?_
                  rw [show ((4 : Int32) + 3) = 7 from rfl]
                  refine kv_ildC (k := 7) dX10_bodyOf_38 rfl rfl rfl (show (7 : Int32) = nI 7 from rfl) (by decide) rfl ?_
                  rw [show (([10, 11, 12, 13, 0, 20, 0, 21, 30, 0, 31, 0, 40, 0, 41, 0, 0, 50, 51, 52] : List Int32).getD 7 0) = 21 from rfl]
                  exact kv_iret dX10_bodyOf_39 rfl ⟨rfl, rfl⟩
        · exact absurd h4 (by decide)

set_option maxRecDepth 20000 in
set_option maxHeartbeats 4000000 in
theorem qX10_bodyOf_3_0 {w : KW} {l : Launch} {u : KMem} (hu : kWd u) : KC w l mX10_bodyOf 0 0 0 [.int 3, .int 0] u (kq (some (.int 40)) u) := by
  refine KC.of (ls := [_, _, _, _]) rfl rfl (Nat.le_of_ble_eq_true rfl) ?_
  refine kv_iload_n dX10_bodyOf_0 rfl ?_
  refine kv_istore_n (ls2 := [_, _, _, _]) dX10_bodyOf_1 rfl rfl rfl rfl ?_
  refine kv_iconst dX10_bodyOf_2 0 ki_0 ?_
  refine kv_istore_n (ls2 := [_, _, _, _]) dX10_bodyOf_3 rfl rfl rfl rfl ?_
  refine kv_iload_n dX10_bodyOf_4 rfl ?_
  refine kv_iconst dX10_bodyOf_5 5 ki_5 ?_
  refine kv_icmp_ge dX10_bodyOf_6 52 (by decide) (fun h1 => ?_) (fun h1 => ?_)
  · exact absurd h1 (by decide)
  · refine kv_iload_n dX10_bodyOf_9 rfl ?_
    refine kv_if_le dX10_bodyOf_10 52 (by decide) (fun h2 => ?_) (fun h2 => ?_)
    · exact absurd h2 (by decide)
    · refine kv_iload_n dX10_bodyOf_13 rfl ?_
      refine kv_iconst dX10_bodyOf_14 5 ki_5 ?_
      refine kv_icmp_ge dX10_bodyOf_15 52 (by decide) (fun h3 => ?_) (fun h3 => ?_)
      · exact absurd h3 (by decide)
      · refine kv_gets 5 dX10_bodyOf_18 rfl rfl sX10_44 ?_
        refine kv_iload_n dX10_bodyOf_21 rfl ?_
        refine kv_iconst dX10_bodyOf_22 4 ki_4 ?_
        refine kv_imul dX10_bodyOf_23 ?_
        rw [show ((3 : Int32) * 4) = 12 from rfl]
        refine kv_iload_n dX10_bodyOf_24 rfl ?_
        refine kv_iadd dX10_bodyOf_25 ?_
        rw [show ((12 : Int32) + 0) = 12 from rfl]
        refine kv_ildC (k := 12) dX10_bodyOf_26 rfl rfl rfl (show (12 : Int32) = nI 12 from rfl) (by decide) rfl ?_
        rw [show (([10, 11, 12, 13, 0, 20, 0, 21, 30, 0, 31, 0, 40, 0, 41, 0, 0, 50, 51, 52] : List Int32).getD 12 0) = 40 from rfl]
        refine kv_if_eq dX10_bodyOf_27 40 (by decide) (fun h4 => ?_) (fun h4 => ?_)
        · exact absurd h4 (by decide)
        · refine kv_gets 5 dX10_bodyOf_30 rfl rfl sX10_44 ?_
          refine kv_iload_n dX10_bodyOf_33 rfl ?_
          refine kv_iconst dX10_bodyOf_34 4 ki_4 ?_
          refine kv_imul dX10_bodyOf_35 ?_
          rw [show ((3 : Int32) * 4) = 12 from rfl]
          refine kv_iload_n dX10_bodyOf_36 rfl ?_
          refine kv_iadd dX10_bodyOf_37 ?_
          rw [show ((12 : Int32) + 0) = 12 from rfl]
          refine kv_ildC (k := 12) dX10_bodyOf_38 rfl rfl rfl (show (12 : Int32) = nI 12 from rfl) (by decide) rfl ?_
          rw [show (([10, 11, 12, 13, 0, 20, 0, 21, 30, 0, 31, 0, 40, 0, 41, 0, 0, 50, 51, 52] : List Int32).getD 12 0) = 40 from rfl]
          exact kv_iret dX10_bodyOf_39 rfl ⟨rfl, rfl⟩

set_option maxRecDepth 20000 in
set_option maxHeartbeats 4000000 in
theorem qX10_bodyOf_3_1 {w : KW} {l : Launch} {u : KMem} (hu : kWd u) : KC w l mX10_bodyOf 0 0 0 [.int 3, .int 1] u (kq (some (.int 11)) u) := by
  refine KC.of (ls := [_, _, _, _]) rfl rfl (Nat.le_of_ble_eq_true rfl) ?_
  refine kv_iload_n dX10_bodyOf_0 rfl ?_
  refine kv_istore_n (ls2 := [_, _, _, _]) dX10_bodyOf_1 rfl rfl rfl rfl ?_
  refine kv_iconst dX10_bodyOf_2 0 ki_0 ?_
  refine kv_istore_n (ls2 := [_, _, _, _]) dX10_bodyOf_3 rfl rfl rfl rfl ?_
  refine kv_iload_n dX10_bodyOf_4 rfl ?_
  refine kv_iconst dX10_bodyOf_5 5 ki_5 ?_
  refine kv_icmp_ge dX10_bodyOf_6 52 (by decide) (fun h1 => ?_) (fun h1 => ?_)
  · exact absurd h1 (by decide)
  · refine kv_iload_n dX10_bodyOf_9 rfl ?_
    refine kv_if_le dX10_bodyOf_10 52 (by decide) (fun h2 => ?_) (fun h2 => ?_)
    · exact absurd h2 (by decide)
    · refine kv_iload_n dX10_bodyOf_13 rfl ?_
      refine kv_iconst dX10_bodyOf_14 5 ki_5 ?_
      refine kv_icmp_ge dX10_bodyOf_15 52 (by decide) (fun h3 => ?_) (fun h3 => ?_)
      · exact absurd h3 (by decide)
      · refine kv_gets 5 dX10_bodyOf_18 rfl rfl sX10_44 ?_
        refine kv_iload_n dX10_bodyOf_21 rfl ?_
        refine kv_iconst dX10_bodyOf_22 4 ki_4 ?_
        refine kv_imul dX10_bodyOf_23 ?_
        rw [show ((3 : Int32) * 4) = 12 from rfl]
        refine kv_iload_n dX10_bodyOf_24 rfl ?_
        refine kv_iadd dX10_bodyOf_25 ?_
        rw [show ((12 : Int32) + 1) = 13 from rfl]
        refine kv_ildC (k := 13) dX10_bodyOf_26 rfl rfl rfl (show (13 : Int32) = nI 13 from rfl) (by decide) rfl ?_
        rw [show (([10, 11, 12, 13, 0, 20, 0, 21, 30, 0, 31, 0, 40, 0, 41, 0, 0, 50, 51, 52] : List Int32).getD 13 0) = 0 from rfl]
        refine kv_if_eq dX10_bodyOf_27 40 (by decide) (fun h4 => ?_) (fun h4 => ?_)
        · refine kv_getsN 4 dX10_bodyOf_40 rfl rfl (by decide +kernel) ?_
          refine kv_iload_n dX10_bodyOf_43 rfl ?_
          refine kv_ildC (k := 3) dX10_bodyOf_44 rfl rfl rfl (show (3 : Int32) = nI 3 from rfl) (by decide) rfl ?_
          rw [show (([-1, 0, 1, 0, 3] : List Int32).getD 3 0) = 0 from rfl]
          refine kv_istore_n (ls2 := [_, _, _, _]) dX10_bodyOf_45 rfl rfl rfl rfl ?_
          refine kv_iinc (ls2 := [_, _, _, _]) dX10_bodyOf_46 (1 : Int32) rfl rfl rfl rfl rfl rfl ?_
          refine kv_goto dX10_bodyOf_49 4 (by decide) ?_
          refine kv_iload_n dX10_bodyOf_4 rfl ?_
          refine kv_iconst dX10_bodyOf_5 5 ki_5 ?_
          refine kv_icmp_ge dX10_bodyOf_6 52 (by decide) (fun h5 => ?_) (fun h5 => ?_)
          · exact absurd h5 (by decide)
          · refine kv_iload_n dX10_bodyOf_9 rfl ?_
            refine kv_if_le dX10_bodyOf_10 52 (by decide) (fun h6 => ?_) (fun h6 => ?_)
            · refine kv_gets 5 dX10_bodyOf_52 rfl rfl sX10_44 ?_
              refine kv_iload_n dX10_bodyOf_55 rfl ?_
              refine kv_ildC (k := 1) dX10_bodyOf_56 rfl rfl rfl (show (1 : Int32) = nI 1 from rfl) (by decide) rfl ?_
              rw [show (([10, 11, 12, 13, 0, 20, 0, 21, 30, 0, 31, 0, 40, 0, 41, 0, 0, 50, 51, 52] : List Int32).getD 1 0) = 11 from rfl]
              exact kv_iret dX10_bodyOf_57 rfl ⟨rfl, rfl⟩
            · exact absurd h6 (by decide)
        · exact absurd h4 (by decide)

set_option maxRecDepth 20000 in
set_option maxHeartbeats 4000000 in
theorem qX10_bodyOf_3_2 {w : KW} {l : Launch} {u : KMem} (hu : kWd u) : KC w l mX10_bodyOf 0 0 0 [.int 3, .int 2] u (kq (some (.int 41)) u) := by
  refine KC.of (ls := [_, _, _, _]) rfl rfl (Nat.le_of_ble_eq_true rfl) ?_
  refine kv_iload_n dX10_bodyOf_0 rfl ?_
  refine kv_istore_n (ls2 := [_, _, _, _]) dX10_bodyOf_1 rfl rfl rfl rfl ?_
  refine kv_iconst dX10_bodyOf_2 0 ki_0 ?_
  refine kv_istore_n (ls2 := [_, _, _, _]) dX10_bodyOf_3 rfl rfl rfl rfl ?_
  refine kv_iload_n dX10_bodyOf_4 rfl ?_
  refine kv_iconst dX10_bodyOf_5 5 ki_5 ?_
  refine kv_icmp_ge dX10_bodyOf_6 52 (by decide) (fun h1 => ?_) (fun h1 => ?_)
  · exact absurd h1 (by decide)
  · refine kv_iload_n dX10_bodyOf_9 rfl ?_
    refine kv_if_le dX10_bodyOf_10 52 (by decide) (fun h2 => ?_) (fun h2 => ?_)
    · exact absurd h2 (by decide)
    · refine kv_iload_n dX10_bodyOf_13 rfl ?_
      refine kv_iconst dX10_bodyOf_14 5 ki_5 ?_
      refine kv_icmp_ge dX10_bodyOf_15 52 (by decide) (fun h3 => ?_) (fun h3 => ?_)
      · exact absurd h3 (by decide)
      · refine kv_gets 5 dX10_bodyOf_18 rfl rfl sX10_44 ?_
        refine kv_iload_n dX10_bodyOf_21 rfl ?_
        refine kv_iconst dX10_bodyOf_22 4 ki_4 ?_
        refine kv_imul dX10_bodyOf_23 ?_
        rw [show ((3 : Int32) * 4) = 12 from rfl]
        refine kv_iload_n dX10_bodyOf_24 rfl ?_
        refine kv_iadd dX10_bodyOf_25 ?_
        rw [show ((12 : Int32) + 2) = 14 from rfl]
        refine kv_ildC (k := 14) dX10_bodyOf_26 rfl rfl rfl (show (14 : Int32) = nI 14 from rfl) (by decide) rfl ?_
        rw [show (([10, 11, 12, 13, 0, 20, 0, 21, 30, 0, 31, 0, 40, 0, 41, 0, 0, 50, 51, 52] : List Int32).getD 14 0) = 41 from rfl]
        refine kv_if_eq dX10_bodyOf_27 40 (by decide) (fun h4 => ?_) (fun h4 => ?_)
        · exact absurd h4 (by decide)
        · refine kv_gets 5 dX10_bodyOf_30 rfl rfl sX10_44 ?_
          refine kv_iload_n dX10_bodyOf_33 rfl ?_
          refine kv_iconst dX10_bodyOf_34 4 ki_4 ?_
          refine kv_imul dX10_bodyOf_35 ?_
          rw [show ((3 : Int32) * 4) = 12 from rfl]
          refine kv_iload_n dX10_bodyOf_36 rfl ?_
          refine kv_iadd dX10_bodyOf_37 ?_
          rw [show ((12 : Int32) + 2) = 14 from rfl]
          refine kv_ildC (k := 14) dX10_bodyOf_38 rfl rfl rfl (show (14 : Int32) = nI 14 from rfl) (by decide) rfl ?_
          rw [show (([10, 11, 12, 13, 0, 20, 0, 21, 30, 0, 31, 0, 40, 0, 41, 0, 0, 50, 51, 52] : List Int32).getD 14 0) = 41 from rfl]
          exact kv_iret dX10_bodyOf_39 rfl ⟨rfl, rfl⟩

set_option maxRecDepth 20000 in
set_option maxHeartbeats 4000000 in
theorem qX10_bodyOf_3_3 {w : KW} {l : Launch} {u : KMem} (hu : kWd u) : KC w l mX10_bodyOf 0 0 0 [.int 3, .int 3] u (kq (some (.int 13)) u) := by
  refine KC.of (ls := [_, _, _, _]) rfl rfl (Nat.le_of_ble_eq_true rfl) ?_
  refine kv_iload_n dX10_bodyOf_0 rfl ?_
  refine kv_istore_n (ls2 := [_, _, _, _]) dX10_bodyOf_1 rfl rfl rfl rfl ?_
  refine kv_iconst dX10_bodyOf_2 0 ki_0 ?_
  refine kv_istore_n (ls2 := [_, _, _, _]) dX10_bodyOf_3 rfl rfl rfl rfl ?_
  refine kv_iload_n dX10_bodyOf_4 rfl ?_
  refine kv_iconst dX10_bodyOf_5 5 ki_5 ?_
  refine kv_icmp_ge dX10_bodyOf_6 52 (by decide) (fun h1 => ?_) (fun h1 => ?_)
  · exact absurd h1 (by decide)
  · refine kv_iload_n dX10_bodyOf_9 rfl ?_
    refine kv_if_le dX10_bodyOf_10 52 (by decide) (fun h2 => ?_) (fun h2 => ?_)
    · exact absurd h2 (by decide)
    · refine kv_iload_n dX10_bodyOf_13 rfl ?_
      refine kv_iconst dX10_bodyOf_14 5 ki_5 ?_
      refine kv_icmp_ge dX10_bodyOf_15 52 (by decide) (fun h3 => ?_) (fun h3 => ?_)
      · exact absurd h3 (by decide)
      · refine kv_gets 5 dX10_bodyOf_18 rfl rfl sX10_44 ?_
        refine kv_iload_n dX10_bodyOf_21 rfl ?_
        refine kv_iconst dX10_bodyOf_22 4 ki_4 ?_
        refine kv_imul dX10_bodyOf_23 ?_
        rw [show ((3 : Int32) * 4) = 12 from rfl]
        refine kv_iload_n dX10_bodyOf_24 rfl ?_
        refine kv_iadd dX10_bodyOf_25 ?_
        rw [show ((12 : Int32) + 3) = 15 from rfl]
        refine kv_ildC (k := 15) dX10_bodyOf_26 rfl rfl rfl (show (15 : Int32) = nI 15 from rfl) (by decide) rfl ?_
        rw [show (([10, 11, 12, 13, 0, 20, 0, 21, 30, 0, 31, 0, 40, 0, 41, 0, 0, 50, 51, 52] : List Int32).getD 15 0) = 0 from rfl]
        refine kv_if_eq dX10_bodyOf_27 40 (by decide) (fun h4 => ?_) (fun h4 => ?_)
        · refine kv_getsN 4 dX10_bodyOf_40 rfl rfl (by decide +kernel) ?_
          refine kv_iload_n dX10_bodyOf_43 rfl ?_
          refine kv_ildC (k := 3) dX10_bodyOf_44 rfl rfl rfl (show (3 : Int32) = nI 3 from rfl) (by decide) rfl ?_
          rw [show (([-1, 0, 1, 0, 3] : List Int32).getD 3 0) = 0 from rfl]
          refine kv_istore_n (ls2 := [_, _, _, _]) dX10_bodyOf_45 rfl rfl rfl rfl ?_
          refine kv_iinc (ls2 := [_, _, _, _]) dX10_bodyOf_46 (1 : Int32) rfl rfl rfl rfl rfl rfl ?_
          refine kv_goto dX10_bodyOf_49 4 (by decide) ?_
          refine kv_iload_n dX10_bodyOf_4 rfl ?_
          refine kv_iconst dX10_bodyOf_5 5 ki_5 ?_
          refine kv_icmp_ge dX10_bodyOf_6 52 (by decide) (fun h5 => ?_) (fun h5 => ?_)
          · exact absurd h5 (by decide)
          · refine kv_iload_n dX10_bodyOf_9 rfl ?_
            refine kv_if_le dX10_bodyOf_10 52 (by decide) (fun h6 => ?_) (fun h6 => ?_)
            · refine kv_gets 5 dX10_bodyOf_52 rfl rfl sX10_44 ?_
              refine kv_iload_n dX10_bodyOf_55 rfl ?_
              refine kv_ildC (k := 3) dX10_bodyOf_56 rfl rfl rfl (show (3 : Int32) = nI 3 from rfl) (by decide) rfl ?_
              rw [show (([10, 11, 12, 13, 0, 20, 0, 21, 30, 0, 31, 0, 40, 0, 41, 0, 0, 50, 51, 52] : List Int32).getD 3 0) = 13 from rfl]
              exact kv_iret dX10_bodyOf_57 rfl ⟨rfl, rfl⟩
            · exact absurd h6 (by decide)
        · exact absurd h4 (by decide)

set_option maxRecDepth 20000 in
set_option maxHeartbeats 4000000 in
theorem qX10_bodyOf_4_0 {w : KW} {l : Launch} {u : KMem} (hu : kWd u) : KC w l mX10_bodyOf 0 0 0 [.int 4, .int 0] u (kq (some (.int 40)) u) := by
  refine KC.of (ls := [_, _, _, _]) rfl rfl (Nat.le_of_ble_eq_true rfl) ?_
  refine kv_iload_n dX10_bodyOf_0 rfl ?_
  refine kv_istore_n (ls2 := [_, _, _, _]) dX10_bodyOf_1 rfl rfl rfl rfl ?_
  refine kv_iconst dX10_bodyOf_2 0 ki_0 ?_
  refine kv_istore_n (ls2 := [_, _, _, _]) dX10_bodyOf_3 rfl rfl rfl rfl ?_
  refine kv_iload_n dX10_bodyOf_4 rfl ?_
  refine kv_iconst dX10_bodyOf_5 5 ki_5 ?_
  refine kv_icmp_ge dX10_bodyOf_6 52 (by decide) (fun h1 => ?_) (fun h1 => ?_)
  · exact absurd h1 (by decide)
  · refine kv_iload_n dX10_bodyOf_9 rfl ?_
    refine kv_if_le dX10_bodyOf_10 52 (by decide) (fun h2 => ?_) (fun h2 => ?_)
    · exact absurd h2 (by decide)
    · refine kv_iload_n dX10_bodyOf_13 rfl ?_
      refine kv_iconst dX10_bodyOf_14 5 ki_5 ?_
      refine kv_icmp_ge dX10_bodyOf_15 52 (by decide) (fun h3 => ?_) (fun h3 => ?_)
      · exact absurd h3 (by decide)
      · refine kv_gets 5 dX10_bodyOf_18 rfl rfl sX10_44 ?_
        refine kv_iload_n dX10_bodyOf_21 rfl ?_
        refine kv_iconst dX10_bodyOf_22 4 ki_4 ?_
        refine kv_imul dX10_bodyOf_23 ?_
        rw [show ((4 : Int32) * 4) = 16 from rfl]
        refine kv_iload_n dX10_bodyOf_24 rfl ?_
        refine kv_iadd dX10_bodyOf_25 ?_
        rw [show ((16 : Int32) + 0) = 16 from rfl]
        refine kv_ildC (k := 16) dX10_bodyOf_26 rfl rfl rfl (show (16 : Int32) = nI 16 from rfl) (by decide) rfl ?_
        rw [show (([10, 11, 12, 13, 0, 20, 0, 21, 30, 0, 31, 0, 40, 0, 41, 0, 0, 50, 51, 52] : List Int32).getD 16 0) = 0 from rfl]
        refine kv_if_eq dX10_bodyOf_27 40 (by decide) (fun h4 => ?_) (fun h4 => ?_)
        · refine kv_getsN 4 dX10_bodyOf_40 rfl rfl (by decide +kernel) ?_
          refine kv_iload_n dX10_bodyOf_43 rfl ?_
          refine kv_ildC (k := 4) dX10_bodyOf_44 rfl rfl rfl (show (4 : Int32) = nI 4 from rfl) (by decide) rfl ?_
          rw [show (([-1, 0, 1, 0, 3] : List Int32).getD 4 0) = 3 from rfl]
          refine kv_istore_n (ls2 := [_, _, _, _]) dX10_bodyOf_45 rfl rfl rfl rfl ?_
          refine kv_iinc (ls2 := [_, _, _, _]) dX10_bodyOf_46 (1 : Int32) rfl rfl rfl rfl rfl rfl ?_
          refine kv_goto dX10_bodyOf_49 4 (by decide) ?_
          refine kv_iload_n dX10_bodyOf_4 rfl ?_
          refine kv_iconst dX10_bodyOf_5 5 ki_5 ?_
          refine kv_icmp_ge dX10_bodyOf_6 52 (by decide) (fun h5 => ?_) (fun h5 => ?_)
          · exact absurd h5 (by decide)
          · refine kv_iload_n dX10_bodyOf_9 rfl ?_
            refine kv_if_le dX10_bodyOf_10 52 (by decide) (fun h6 => ?_) (fun h6 => ?_)
            · exact absurd h6 (by decide)
            · refine kv_iload_n dX10_bodyOf_13 rfl ?_
              refine kv_iconst dX10_bodyOf_14 5 ki_5 ?_
              refine kv_icmp_ge dX10_bodyOf_15 52 (by decide) (fun h7 => ?_) (fun h7 => ?_)
              · exact absurd h7 (by decide)
              · refine kv_gets 5 dX10_bodyOf_18 rfl rfl sX10_44 ?_
                refine kv_iload_n dX10_bodyOf_21 rfl ?_
                refine kv_iconst dX10_bodyOf_22 4 ki_4 ?_
                refine kv_imul dX10_bodyOf_23 ?_
                rw [show ((3 : Int32) * 4) = 12 from rfl]
                refine kv_iload_n dX10_bodyOf_24 rfl ?_
                refine kv_iadd dX10_bodyOf_25 ?_
                rw [show ((12 : Int32) + 0) = 12 from rfl]
                refine kv_ildC (k := 12) dX10_bodyOf_26 rfl rfl rfl (show (12 : Int32) = nI 12 from rfl) (by decide) rfl ?_
                rw [show (([10, 11, 12, 13, 0, 20, 0, 21, 30, 0, 31, 0, 40, 0, 41, 0, 0, 50, 51, 52] : List Int32).getD 12 0) = 40 from rfl]
                refine kv_if_eq dX10_bodyOf_27 40 (by decide) (fun h8 => ?_) (fun h8 => ?_)
                · exact absurd h8 (by decide)
                · refine kv_gets 5 dX10_bodyOf_30 rfl rfl sX10_44 ?_
                  refine kv_iload_n dX10_bodyOf_33 rfl ?_
                  refine kv_iconst dX10_bodyOf_34 4 ki_4 ?_
                  refine kv_imul dX10_bodyOf_35 ?_
                  rw [show ((3 : Int32) * 4) = 12 from rfl]
                  refine kv_iload_n dX10_bodyOf_36 rfl ?_
                  refine kv_iadd dX10_bodyOf_37 ?_
                  rw [show ((12 : Int32) + 0) = 12 from rfl]
                  refine kv_ildC (k := 12) dX10_bodyOf_38 rfl rfl rfl (show (12 : Int32) = nI 12 from rfl) (by decide) rfl ?_
                  rw [show (([10, 11, 12, 13, 0, 20, 0, 21, 30, 0, 31, 0, 40, 0, 41, 0, 0, 50, 51, 52] : List Int32).getD 12 0) = 40 from rfl]
                  exact kv_iret dX10_bodyOf_39 rfl ⟨rfl, rfl⟩
        · exact absurd h4 (by decide)

set_option maxRecDepth 20000 in
set_option maxHeartbeats 4000000 in
theorem qX10_bodyOf_4_1 {w : KW} {l : Launch} {u : KMem} (hu : kWd u) : KC w l mX10_bodyOf 0 0 0 [.int 4, .int 1] u (kq (some (.int 50)) u) := by
  refine KC.of (ls := [_, _, _, _]) rfl rfl (Nat.le_of_ble_eq_true rfl) ?_
  refine kv_iload_n dX10_bodyOf_0 rfl ?_
  refine kv_istore_n (ls2 := [_, _, _, _]) dX10_bodyOf_1 rfl rfl rfl rfl ?_
  refine kv_iconst dX10_bodyOf_2 0 ki_0 ?_
  refine kv_istore_n (ls2 := [_, _, _, _]) dX10_bodyOf_3 rfl rfl rfl rfl ?_
  refine kv_iload_n dX10_bodyOf_4 rfl ?_
  refine kv_iconst dX10_bodyOf_5 5 ki_5 ?_
  refine kv_icmp_ge dX10_bodyOf_6 52 (by decide) (fun h1 => ?_) (fun h1 => ?_)
  · exact absurd h1 (by decide)
  · refine kv_iload_n dX10_bodyOf_9 rfl ?_
    refine kv_if_le dX10_bodyOf_10 52 (by decide) (fun h2 => ?_) (fun h2 => ?_)
    · exact absurd h2 (by decide)
    · refine kv_iload_n dX10_bodyOf_13 rfl ?_
      refine kv_iconst dX10_bodyOf_14 5 ki_5 ?_
      refine kv_icmp_ge dX10_bodyOf_15 52 (by decide) (fun h3 => ?_) (fun h3 => ?_)
      · exact absurd h3 (by decide)
      · refine kv_gets 5 dX10_bodyOf_18 rfl rfl sX10_44 ?_
        refine kv_iload_n dX10_bodyOf_21 rfl ?_
        refine kv_iconst dX10_bodyOf_22 4 ki_4 ?_
        refine kv_imul dX10_bodyOf_23 ?_
        rw [show ((4 : Int32) * 4) = 16 from rfl]
        refine kv_iload_n dX10_bodyOf_24 rfl ?_
        refine kv_iadd dX10_bodyOf_25 ?_
        rw [show ((16 : Int32) + 1) = 17 from rfl]
        refine kv_ildC (k := 17) dX10_bodyOf_26 rfl rfl rfl (show (17 : Int32) = nI 17 from rfl) (by decide) rfl ?_
        rw [show (([10, 11, 12, 13, 0, 20, 0, 21, 30, 0, 31, 0, 40, 0, 41, 0, 0, 50, 51, 52] : List Int32).getD 17 0) = 50 from rfl]
        refine kv_if_eq dX10_bodyOf_27 40 (by decide) (fun h4 => ?_) (fun h4 => ?_)
        · exact absurd h4 (by decide)
        · refine kv_gets 5 dX10_bodyOf_30 rfl rfl sX10_44 ?_
          refine kv_iload_n dX10_bodyOf_33 rfl ?_
          refine kv_iconst dX10_bodyOf_34 4 ki_4 ?_
          refine kv_imul dX10_bodyOf_35 ?_
          rw [show ((4 : Int32) * 4) = 16 from rfl]
          refine kv_iload_n dX10_bodyOf_36 rfl ?_
          refine kv_iadd dX10_bodyOf_37 ?_
          rw [show ((16 : Int32) + 1) = 17 from rfl]
          refine kv_ildC (k := 17) dX10_bodyOf_38 rfl rfl rfl (show (17 : Int32) = nI 17 from rfl) (by decide) rfl ?_
          rw [show (([10, 11, 12, 13, 0, 20, 0, 21, 30, 0, 31, 0, 40, 0, 41, 0, 0, 50, 51, 52] : List Int32).getD 17 0) = 50 from rfl]
          exact kv_iret dX10_bodyOf_39 rfl ⟨rfl, rfl⟩

set_option maxRecDepth 20000 in
set_option maxHeartbeats 4000000 in
theorem qX10_bodyOf_4_2 {w : KW} {l : Launch} {u : KMem} (hu : kWd u) : KC w l mX10_bodyOf 0 0 0 [.int 4, .int 2] u (kq (some (.int 51)) u) := by
  refine KC.of (ls := [_, _, _, _]) rfl rfl (Nat.le_of_ble_eq_true rfl) ?_
  refine kv_iload_n dX10_bodyOf_0 rfl ?_
  refine kv_istore_n (ls2 := [_, _, _, _]) dX10_bodyOf_1 rfl rfl rfl rfl ?_
  refine kv_iconst dX10_bodyOf_2 0 ki_0 ?_
  refine kv_istore_n (ls2 := [_, _, _, _]) dX10_bodyOf_3 rfl rfl rfl rfl ?_
  refine kv_iload_n dX10_bodyOf_4 rfl ?_
  refine kv_iconst dX10_bodyOf_5 5 ki_5 ?_
  refine kv_icmp_ge dX10_bodyOf_6 52 (by decide) (fun h1 => ?_) (fun h1 => ?_)
  · exact absurd h1 (by decide)
  · refine kv_iload_n dX10_bodyOf_9 rfl ?_
    refine kv_if_le dX10_bodyOf_10 52 (by decide) (fun h2 => ?_) (fun h2 => ?_)
    · exact absurd h2 (by decide)
    · refine kv_iload_n dX10_bodyOf_13 rfl ?_
      refine kv_iconst dX10_bodyOf_14 5 ki_5 ?_
      refine kv_icmp_ge dX10_bodyOf_15 52 (by decide) (fun h3 => ?_) (fun h3 => ?_)
      · exact absurd h3 (by decide)
      · refine kv_gets 5 dX10_bodyOf_18 rfl rfl sX10_44 ?_
        refine kv_iload_n dX10_bodyOf_21 rfl ?_
        refine kv_iconst dX10_bodyOf_22 4 ki_4 ?_
        refine kv_imul dX10_bodyOf_23 ?_
        rw [show ((4 : Int32) * 4) = 16 from rfl]
        refine kv_iload_n dX10_bodyOf_24 rfl ?_
        refine kv_iadd dX10_bodyOf_25 ?_
        rw [show ((16 : Int32) + 2) = 18 from rfl]
        refine kv_ildC (k := 18) dX10_bodyOf_26 rfl rfl rfl (show (18 : Int32) = nI 18 from rfl) (by decide) rfl ?_
        rw [show (([10, 11, 12, 13, 0, 20, 0, 21, 30, 0, 31, 0, 40, 0, 41, 0, 0, 50, 51, 52] : List Int32).getD 18 0) = 51 from rfl]
        refine kv_if_eq dX10_bodyOf_27 40 (by decide) (fun h4 => ?_) (fun h4 => ?_)
        · exact absurd h4 (by decide)
        · refine kv_gets 5 dX10_bodyOf_30 rfl rfl sX10_44 ?_
          refine kv_iload_n dX10_bodyOf_33 rfl ?_
          refine kv_iconst dX10_bodyOf_34 4 ki_4 ?_
          refine kv_imul dX10_bodyOf_35 ?_
          rw [show ((4 : Int32) * 4) = 16 from rfl]
          refine kv_iload_n dX10_bodyOf_36 rfl ?_
          refine kv_iadd dX10_bodyOf_37 ?_
          rw [show ((16 : Int32) + 2) = 18 from rfl]
          refine kv_ildC (k := 18) dX10_bodyOf_38 rfl rfl rfl (show (18 : Int32) = nI 18 from rfl) (by decide) rfl ?_
          rw [show (([10, 11, 12, 13, 0, 20, 0, 21, 30, 0, 31, 0, 40, 0, 41, 0, 0, 50, 51, 52] : List Int32).getD 18 0) = 51 from rfl]
          exact kv_iret dX10_bodyOf_39 rfl ⟨rfl, rfl⟩

set_option maxRecDepth 20000 in
set_option maxHeartbeats 4000000 in
theorem qX10_bodyOf_4_3 {w : KW} {l : Launch} {u : KMem} (hu : kWd u) : KC w l mX10_bodyOf 0 0 0 [.int 4, .int 3] u (kq (some (.int 52)) u) := by
  refine KC.of (ls := [_, _, _, _]) rfl rfl (Nat.le_of_ble_eq_true rfl) ?_
  refine kv_iload_n dX10_bodyOf_0 rfl ?_
  refine kv_istore_n (ls2 := [_, _, _, _]) dX10_bodyOf_1 rfl rfl rfl rfl ?_
  refine kv_iconst dX10_bodyOf_2 0 ki_0 ?_
  refine kv_istore_n (ls2 := [_, _, _, _]) dX10_bodyOf_3 rfl rfl rfl rfl ?_
  refine kv_iload_n dX10_bodyOf_4 rfl ?_
  refine kv_iconst dX10_bodyOf_5 5 ki_5 ?_
  refine kv_icmp_ge dX10_bodyOf_6 52 (by decide) (fun h1 => ?_) (fun h1 => ?_)
  · exact absurd h1 (by decide)
  · refine kv_iload_n dX10_bodyOf_9 rfl ?_
    refine kv_if_le dX10_bodyOf_10 52 (by decide) (fun h2 => ?_) (fun h2 => ?_)
    · exact absurd h2 (by decide)
    · refine kv_iload_n dX10_bodyOf_13 rfl ?_
      refine kv_iconst dX10_bodyOf_14 5 ki_5 ?_
      refine kv_icmp_ge dX10_bodyOf_15 52 (by decide) (fun h3 => ?_) (fun h3 => ?_)
      · exact absurd h3 (by decide)
      · refine kv_gets 5 dX10_bodyOf_18 rfl rfl sX10_44 ?_
        refine kv_iload_n dX10_bodyOf_21 rfl ?_
        refine kv_iconst dX10_bodyOf_22 4 ki_4 ?_
        refine kv_imul dX10_bodyOf_23 ?_
        rw [show ((4 : Int32) * 4) = 16 from rfl]
        refine kv_iload_n dX10_bodyOf_24 rfl ?_
        refine kv_iadd dX10_bodyOf_25 ?_
        rw [show ((16 : Int32) + 3) = 19 from rfl]
        refine kv_ildC (k := 19) dX10_bodyOf_26 rfl rfl rfl (show (19 : Int32) = nI 19 from rfl) (by decide) rfl ?_
        rw [show (([10, 11, 12, 13, 0, 20, 0, 21, 30, 0, 31, 0, 40, 0, 41, 0, 0, 50, 51, 52] : List Int32).getD 19 0) = 52 from rfl]
        refine kv_if_eq dX10_bodyOf_27 40 (by decide) (fun h4 => ?_) (fun h4 => ?_)
        · exact absurd h4 (by decide)
        · refine kv_gets 5 dX10_bodyOf_30 rfl rfl sX10_44 ?_
          refine kv_iload_n dX10_bodyOf_33 rfl ?_
          refine kv_iconst dX10_bodyOf_34 4 ki_4 ?_
          refine kv_imul dX10_bodyOf_35 ?_
          rw [show ((4 : Int32) * 4) = 16 from rfl]
          refine kv_iload_n dX10_bodyOf_36 rfl ?_
          refine kv_iadd dX10_bodyOf_37 ?_
          rw [show ((16 : Int32) + 3) = 19 from rfl]
          refine kv_ildC (k := 19) dX10_bodyOf_38 rfl rfl rfl (show (19 : Int32) = nI 19 from rfl) (by decide) rfl ?_
          rw [show (([10, 11, 12, 13, 0, 20, 0, 21, 30, 0, 31, 0, 40, 0, 41, 0, 0, 50, 51, 52] : List Int32).getD 19 0) = 52 from rfl]
          exact kv_iret dX10_bodyOf_39 rfl ⟨rfl, rfl⟩

theorem qX10_bodyOf {w : KW} {l : Launch} {u : KMem} (hu : kWd u) (fr act : Nat) (hf : fr < 5) (ha : act < 4) : KC w l mX10_bodyOf 0 0 0 [.int (nI fr), .int (nI act)] u (kq (some (.int (nI (kBody fr act)))) u) := by
  rcases (show fr = 0 ∨ fr = 1 ∨ fr = 2 ∨ fr = 3 ∨ fr = 4 by omega) with rfl | rfl | rfl | rfl | rfl <;> rcases (show act = 0 ∨ act = 1 ∨ act = 2 ∨ act = 3 by omega) with rfl | rfl | rfl | rfl
  · exact qX10_bodyOf_0_0 hu
  · exact qX10_bodyOf_0_1 hu
  · exact qX10_bodyOf_0_2 hu
  · exact qX10_bodyOf_0_3 hu
  · exact qX10_bodyOf_1_0 hu
  · exact qX10_bodyOf_1_1 hu
  · exact qX10_bodyOf_1_2 hu
  · exact qX10_bodyOf_1_3 hu
  · exact qX10_bodyOf_2_0 hu
  · exact qX10_bodyOf_2_1 hu
  · exact qX10_bodyOf_2_2 hu
  · exact qX10_bodyOf_2_3 hu
  · exact qX10_bodyOf_3_0 hu
  · exact qX10_bodyOf_3_1 hu
  · exact qX10_bodyOf_3_2 hu
  · exact qX10_bodyOf_3_3 hu
  · exact qX10_bodyOf_4_0 hu
  · exact qX10_bodyOf_4_1 hu
  · exact qX10_bodyOf_4_2 hu
  · exact qX10_bodyOf_4_3 hu
set_option maxRecDepth 20000 in
set_option maxHeartbeats 4000000 in
theorem qX10_parts {w : KW} {l : Launch} {u v : KMem} (hu : kWd v) {K : Nat} {h n : Int32} {s : kVS} (hs : kVX u K h n s v) (x : Int32) : KC w l mX10_parts 0 0 0 [.ref 397, .int x] v (fun r z => r = some (.int (if h = n then (0, ((s.1, s.2.1, 1) : kVS)) else (x / (h - n), s)).1) ∧ kVX u K h n (if h = n then (0, ((s.1, s.2.1, 1) : kVS)) else (x / (h - n), s)).2 z) := by
  refine KC.of (ls := [_, _]) rfl rfl (Nat.le_of_ble_eq_true rfl) ?_
  refine kv_aload_n dX10_parts_0 rfl ?_
  refine kw_gI dX10_parts_1 fX10_19 hu (by first | rfl | assumption) rfl rfl ?_
  rw [hs.2.2.2.2.2.2.2.2]
  refine kv_aload_n dX10_parts_4 rfl ?_
  refine kw_gI dX10_parts_5 fX10_15 hu (by first | rfl | assumption) rfl rfl ?_
  rw [hs.2.2.2.2.2.2.2.1]
  refine kv_icmp_ne dX10_parts_8 18 (by decide) (fun h1 => ?_) (fun h1 => ?_)
  · have hp := h1
    refine kv_iload_n dX10_parts_18 rfl ?_
    refine kv_aload_n dX10_parts_19 rfl ?_
    refine kw_gI dX10_parts_20 fX10_19 hu (by first | rfl | assumption) rfl rfl ?_
    rw [hs.2.2.2.2.2.2.2.2]
    refine kv_aload_n dX10_parts_23 rfl ?_
    refine kw_gI dX10_parts_24 fX10_15 hu (by first | rfl | assumption) rfl rfl ?_
    rw [hs.2.2.2.2.2.2.2.1]
    refine kv_isub dX10_parts_27 ?_
    refine kv_idiv dX10_parts_28 (fun q => hp (by rw [← Int32.sub_add_cancel h n, q, Int32.zero_add])) ?_
    exact kv_iret dX10_parts_29 rfl ⟨by rw [if_neg hp], by rw [if_neg hp]; exact hs⟩
  · have hp := h1
    refine kv_aload_n dX10_parts_11 rfl ?_
    refine kv_iconst dX10_parts_12 1 ki_1 ?_
    refine kw_pZ dX10_parts_13 fX10_28 hu (by first | rfl | assumption) rfl rfl (by first | exact Or.inl rfl | exact Or.inr rfl | assumption) ?_
    refine kv_iconst dX10_parts_16 0 ki_0 ?_
    exact kv_iret dX10_parts_17 rfl ⟨by rw [if_pos hp], by rw [if_pos hp]; exact ⟨hs.1.si (Or.inl rfl), (kv_si_n (by omega)).trans hs.2.1, hs.2.2.1, fun k hk => (kv_si_n (by omega)).trans (hs.2.2.2.1 k hk), kv_si_s _ _ _ _, Or.inr rfl, (kv_si_n (by omega)).trans hs.2.2.2.2.2.2.1, (kv_si_n (by omega)).trans hs.2.2.2.2.2.2.2.1, (kv_si_n (by omega)).trans hs.2.2.2.2.2.2.2.2⟩⟩

set_option maxRecDepth 20000 in
set_option maxHeartbeats 4000000 in
theorem qX10_work_10 {w : KW} {l : Launch} {u : KMem} (hu : kWd u) {K : Nat} (hK : K < 5) {h n : Int32} {f : Nat} (hI : ∀ (fr act : Nat) (x : Int32) (dep : Nat) (v : KMem) (s : kVS), fr < 5 → act < 4 → kFu K f fr act = true → dep + f ≤ 41 → kVX u K h n s v → KC w l mX10_speak (2 * f + 1) 0 0 [.ref 397, .int (nI fr), .int (nI act), .int x, .int (nI dep)] v (fun r z => r = some (.int (kSp K h n f fr act x s).1) ∧ kVX u K h n (kSp K h n f fr act x s).2 z)) (x : Int32) (dep : Nat) (hd : dep + f ≤ 41) {v : KMem} {s : kVS} (hs : kVX u K h n s v) (hfu : (kSub K 10).all (fun q => kFu K f q.1 q.2) = true) : KC w l mX10_work (2 * f + 2) 0 0 [.ref 397, .int 10, .int x, .int (nI dep)] v (fun r z => r = some (.int (kWk (kSp K h n f) K h n 10 x s).1) ∧ kVX u K h n (kWk (kSp K h n f) K h n 10 x s).2 z) := by
  have hv := hs.1.wd hu
  refine KC.of (ls := [_, _, _, _]) rfl rfl (Nat.le_of_ble_eq_true rfl) ?_
  refine kv_iload_n dX10_work_0 rfl ?_
  refine kv_tableIn dX10_work_1 188 (by decide) (by decide) rfl (by decide) ?_
  refine kv_iload_n dX10_work_188 rfl ?_
  refine kv_aload_n dX10_work_189 rfl ?_
  refine kw_gI dX10_work_190 fX10_19 hv (by first | rfl | assumption) rfl rfl ?_
  rw [hs.2.2.2.2.2.2.2.2]
  refine kv_iadd dX10_work_193 ?_
  exact kv_iret dX10_work_194 rfl ⟨rfl, hs⟩

set_option maxRecDepth 20000 in
set_option maxHeartbeats 4000000 in
theorem qX10_work_11 {w : KW} {l : Launch} {u : KMem} (hu : kWd u) {K : Nat} (hK : K < 5) {h n : Int32} {f : Nat} (hI : ∀ (fr act : Nat) (x : Int32) (dep : Nat) (v : KMem) (s : kVS), fr < 5 → act < 4 → kFu K f fr act = true → dep + f ≤ 41 → kVX u K h n s v → KC w l mX10_speak (2 * f + 1) 0 0 [.ref 397, .int (nI fr), .int (nI act), .int x, .int (nI dep)] v (fun r z => r = some (.int (kSp K h n f fr act x s).1) ∧ kVX u K h n (kSp K h n f fr act x s).2 z)) (x : Int32) (dep : Nat) (hd : dep + f ≤ 41) {v : KMem} {s : kVS} (hs : kVX u K h n s v) (hfu : (kSub K 11).all (fun q => kFu K f q.1 q.2) = true) : KC w l mX10_work (2 * f + 2) 0 0 [.ref 397, .int 11, .int x, .int (nI dep)] v (fun r z => r = some (.int (kWk (kSp K h n f) K h n 11 x s).1) ∧ kVX u K h n (kWk (kSp K h n f) K h n 11 x s).2 z) := by
  have hv := hs.1.wd hu
  refine KC.of (ls := [_, _, _, _]) rfl rfl (Nat.le_of_ble_eq_true rfl) ?_
  have hf : (kFu K f K 0 && true) = true := hfu
  simp only [Bool.and_true, Bool.and_eq_true] at hf
  refine kv_iload_n dX10_work_0 rfl ?_
  refine kv_tableIn dX10_work_1 195 (by decide) (by decide) rfl (by decide) ?_
  refine kv_aload_n dX10_work_195 rfl ?_
  refine kv_aload_n dX10_work_196 rfl ?_
  refine kw_gI dX10_work_197 fX10_22 hv (by first | rfl | assumption) rfl rfl ?_
  rw [hs.2.2.2.2.2.2.1]
  refine kv_iconst dX10_work_200 0 ki_0 ?_
  refine kv_iload_n dX10_work_201 rfl ?_
  refine kv_iload_n dX10_work_202 rfl ?_
  refine kw_VQ [_, _, _, _] mX10_speak dX10_work_203 lX10_32 wX10_speak kC10 hv rfl (by first | rfl | assumption) rfl rfl rfl (hI K 0 _ dep _ _ (by omega) (by omega) hf (by omega) hs) (by omega) (fun _ v1 q1 => ?_)
  obtain ⟨rfl, hs1⟩ := q1
  have hv1 := hs1.1.wd hu
  refine kv_iconst dX10_work_206 2 ki_2 ?_
  refine kv_imul dX10_work_207 ?_
  exact kv_iret dX10_work_208 rfl ⟨rfl, hs1⟩

set_option maxRecDepth 20000 in
set_option maxHeartbeats 4000000 in
theorem qX10_work_12 {w : KW} {l : Launch} {u : KMem} (hu : kWd u) {K : Nat} (hK : K < 5) {h n : Int32} {f : Nat} (hI : ∀ (fr act : Nat) (x : Int32) (dep : Nat) (v : KMem) (s : kVS), fr < 5 → act < 4 → kFu K f fr act = true → dep + f ≤ 41 → kVX u K h n s v → KC w l mX10_speak (2 * f + 1) 0 0 [.ref 397, .int (nI fr), .int (nI act), .int x, .int (nI dep)] v (fun r z => r = some (.int (kSp K h n f fr act x s).1) ∧ kVX u K h n (kSp K h n f fr act x s).2 z)) (x : Int32) (dep : Nat) (hd : dep + f ≤ 41) {v : KMem} {s : kVS} (hs : kVX u K h n s v) (hfu : (kSub K 12).all (fun q => kFu K f q.1 q.2) = true) : KC w l mX10_work (2 * f + 2) 0 0 [.ref 397, .int 12, .int x, .int (nI dep)] v (fun r z => r = some (.int (kWk (kSp K h n f) K h n 12 x s).1) ∧ kVX u K h n (kWk (kSp K h n f) K h n 12 x s).2 z) := by
  have hv := hs.1.wd hu
  refine KC.of (ls := [_, _, _, _]) rfl rfl (Nat.le_of_ble_eq_true rfl) ?_
  have hf : (kFu K f K 1 && true) = true := hfu
  simp only [Bool.and_true, Bool.and_eq_true] at hf
  refine kv_iload_n dX10_work_0 rfl ?_
  refine kv_tableIn dX10_work_1 209 (by decide) (by decide) rfl (by decide) ?_
  refine kv_aload_n dX10_work_209 rfl ?_
  refine kv_aload_n dX10_work_210 rfl ?_
  refine kw_gI dX10_work_211 fX10_22 hv (by first | rfl | assumption) rfl rfl ?_
  rw [hs.2.2.2.2.2.2.1]
  refine kv_iconst dX10_work_214 1 ki_1 ?_
  refine kv_iload_n dX10_work_215 rfl ?_
  refine kv_iload_n dX10_work_216 rfl ?_
  refine kw_VQ [_, _, _, _] mX10_speak dX10_work_217 lX10_32 wX10_speak kC10 hv rfl (by first | rfl | assumption) rfl rfl rfl (hI K 1 _ dep _ _ (by omega) (by omega) hf (by omega) hs) (by omega) (fun _ v1 q1 => ?_)
  obtain ⟨rfl, hs1⟩ := q1
  have hv1 := hs1.1.wd hu
  refine kv_aload_n dX10_work_220 rfl ?_
  refine kw_gI dX10_work_221 fX10_15 hv1 (by first | rfl | assumption) rfl rfl ?_
  rw [hs1.2.2.2.2.2.2.2.1]
  refine kv_isub dX10_work_224 ?_
  exact kv_iret dX10_work_225 rfl ⟨rfl, hs1⟩

set_option maxRecDepth 20000 in
set_option maxHeartbeats 4000000 in
theorem qX10_work_13 {w : KW} {l : Launch} {u : KMem} (hu : kWd u) {K : Nat} (hK : K < 5) {h n : Int32} {f : Nat} (hI : ∀ (fr act : Nat) (x : Int32) (dep : Nat) (v : KMem) (s : kVS), fr < 5 → act < 4 → kFu K f fr act = true → dep + f ≤ 41 → kVX u K h n s v → KC w l mX10_speak (2 * f + 1) 0 0 [.ref 397, .int (nI fr), .int (nI act), .int x, .int (nI dep)] v (fun r z => r = some (.int (kSp K h n f fr act x s).1) ∧ kVX u K h n (kSp K h n f fr act x s).2 z)) (x : Int32) (dep : Nat) (hd : dep + f ≤ 41) {v : KMem} {s : kVS} (hs : kVX u K h n s v) (hfu : (kSub K 13).all (fun q => kFu K f q.1 q.2) = true) : KC w l mX10_work (2 * f + 2) 0 0 [.ref 397, .int 13, .int x, .int (nI dep)] v (fun r z => r = some (.int (kWk (kSp K h n f) K h n 13 x s).1) ∧ kVX u K h n (kWk (kSp K h n f) K h n 13 x s).2 z) := by
  have hv := hs.1.wd hu
  refine KC.of (ls := [_, _, _, _]) rfl rfl (Nat.le_of_ble_eq_true rfl) ?_
  refine kv_iload_n dX10_work_0 rfl ?_
  refine kv_tableIn dX10_work_1 226 (by decide) (by decide) rfl (by decide) ?_
  refine kv_aload_n dX10_work_226 rfl ?_
  refine kv_iload_n dX10_work_227 rfl ?_
  refine kw_VQ [_] mX10_parts dX10_work_228 lX10_50 wX10_parts kC10 hv rfl (by first | rfl | assumption) rfl rfl rfl (qX10_parts hv hs _) (by omega) (fun _ v1 q1 => ?_)
  obtain ⟨rfl, hs1⟩ := q1
  have hv1 := hs1.1.wd hu
  exact kv_iret dX10_work_231 rfl ⟨rfl, hs1⟩

set_option maxRecDepth 20000 in
set_option maxHeartbeats 4000000 in
theorem qX10_work_20 {w : KW} {l : Launch} {u : KMem} (hu : kWd u) {K : Nat} (hK : K < 5) {h n : Int32} {f : Nat} (hI : ∀ (fr act : Nat) (x : Int32) (dep : Nat) (v : KMem) (s : kVS), fr < 5 → act < 4 → kFu K f fr act = true → dep + f ≤ 41 → kVX u K h n s v → KC w l mX10_speak (2 * f + 1) 0 0 [.ref 397, .int (nI fr), .int (nI act), .int x, .int (nI dep)] v (fun r z => r = some (.int (kSp K h n f fr act x s).1) ∧ kVX u K h n (kSp K h n f fr act x s).2 z)) (x : Int32) (dep : Nat) (hd : dep + f ≤ 41) {v : KMem} {s : kVS} (hs : kVX u K h n s v) (hfu : (kSub K 20).all (fun q => kFu K f q.1 q.2) = true) : KC w l mX10_work (2 * f + 2) 0 0 [.ref 397, .int 20, .int x, .int (nI dep)] v (fun r z => r = some (.int (kWk (kSp K h n f) K h n 20 x s).1) ∧ kVX u K h n (kWk (kSp K h n f) K h n 20 x s).2 z) := by
  have hv := hs.1.wd hu
  refine KC.of (ls := [_, _, _, _]) rfl rfl (Nat.le_of_ble_eq_true rfl) ?_
  have hf : (kFu K f 0 1 && true) = true := hfu
  simp only [Bool.and_true, Bool.and_eq_true] at hf
  refine kv_iload_n dX10_work_0 rfl ?_
  refine kv_tableIn dX10_work_1 232 (by decide) (by decide) rfl (by decide) ?_
  refine kv_aload_n dX10_work_232 rfl ?_
  refine kv_iconst dX10_work_233 0 ki_0 ?_
  refine kv_iconst dX10_work_234 1 ki_1 ?_
  refine kv_iload_n dX10_work_235 rfl ?_
  refine kv_iload_n dX10_work_236 rfl ?_
  refine kw_VQ [_, _, _, _] mX10_speak dX10_work_237 lX10_32 wX10_speak kC10 hv rfl (by first | rfl | assumption) rfl rfl rfl (hI 0 1 _ dep _ _ (by omega) (by omega) hf (by omega) hs) (by omega) (fun _ v1 q1 => ?_)
  obtain ⟨rfl, hs1⟩ := q1
  have hv1 := hs1.1.wd hu
  refine kv_iconst dX10_work_240 1 ki_1 ?_
  refine kv_iadd dX10_work_241 ?_
  exact kv_iret dX10_work_242 rfl ⟨rfl, hs1⟩

set_option maxRecDepth 20000 in
set_option maxHeartbeats 4000000 in
theorem qX10_work_21 {w : KW} {l : Launch} {u : KMem} (hu : kWd u) {K : Nat} (hK : K < 5) {h n : Int32} {f : Nat} (hI : ∀ (fr act : Nat) (x : Int32) (dep : Nat) (v : KMem) (s : kVS), fr < 5 → act < 4 → kFu K f fr act = true → dep + f ≤ 41 → kVX u K h n s v → KC w l mX10_speak (2 * f + 1) 0 0 [.ref 397, .int (nI fr), .int (nI act), .int x, .int (nI dep)] v (fun r z => r = some (.int (kSp K h n f fr act x s).1) ∧ kVX u K h n (kSp K h n f fr act x s).2 z)) (x : Int32) (dep : Nat) (hd : dep + f ≤ 41) {v : KMem} {s : kVS} (hs : kVX u K h n s v) (hfu : (kSub K 21).all (fun q => kFu K f q.1 q.2) = true) : KC w l mX10_work (2 * f + 2) 0 0 [.ref 397, .int 21, .int x, .int (nI dep)] v (fun r z => r = some (.int (kWk (kSp K h n f) K h n 21 x s).1) ∧ kVX u K h n (kWk (kSp K h n f) K h n 21 x s).2 z) := by
  have hv := hs.1.wd hu
  refine KC.of (ls := [_, _, _, _]) rfl rfl (Nat.le_of_ble_eq_true rfl) ?_
  have hf : (kFu K f 0 3 && (kFu K f K 2 && true)) = true := hfu
  simp only [Bool.and_true, Bool.and_eq_true] at hf
  refine kv_iload_n dX10_work_0 rfl ?_
  refine kv_tableIn dX10_work_1 243 (by decide) (by decide) rfl (by decide) ?_
  refine kv_aload_n dX10_work_243 rfl ?_
  refine kv_iconst dX10_work_244 0 ki_0 ?_
  refine kv_iconst dX10_work_245 3 ki_3 ?_
  refine kv_iload_n dX10_work_246 rfl ?_
  refine kv_iload_n dX10_work_247 rfl ?_
  refine kw_VQ [_, _, _, _] mX10_speak dX10_work_248 lX10_32 wX10_speak kC10 hv rfl (by first | rfl | assumption) rfl rfl rfl (hI 0 3 _ dep _ _ (by omega) (by omega) hf.1 (by omega) hs) (by omega) (fun _ v1 q1 => ?_)
  obtain ⟨rfl, hs1⟩ := q1
  have hv1 := hs1.1.wd hu
  refine kv_aload_n dX10_work_251 rfl ?_
  refine kv_aload_n dX10_work_252 rfl ?_
  refine kw_gI dX10_work_253 fX10_22 hv1 (by first | rfl | assumption) rfl rfl ?_
  rw [hs1.2.2.2.2.2.2.1]
  refine kv_iconst dX10_work_256 2 ki_2 ?_
  refine kv_iconst dX10_work_257 1 ki_1 ?_
  refine kv_iload_n dX10_work_258 rfl ?_
  refine kw_VQ [_, _, _, _] mX10_speak dX10_work_259 lX10_32 wX10_speak kC10 hv1 rfl (by first | rfl | assumption) rfl rfl rfl (hI K 2 _ dep _ _ (by omega) (by omega) hf.2 (by omega) hs1) (by omega) (fun _ v2 q2 => ?_)
  obtain ⟨rfl, hs2⟩ := q2
  have hv2 := hs2.1.wd hu
  refine kv_iadd dX10_work_262 ?_
  exact kv_iret dX10_work_263 rfl ⟨rfl, hs2⟩

set_option maxRecDepth 20000 in
set_option maxHeartbeats 4000000 in
theorem qX10_work_30 {w : KW} {l : Launch} {u : KMem} (hu : kWd u) {K : Nat} (hK : K < 5) {h n : Int32} {f : Nat} (hI : ∀ (fr act : Nat) (x : Int32) (dep : Nat) (v : KMem) (s : kVS), fr < 5 → act < 4 → kFu K f fr act = true → dep + f ≤ 41 → kVX u K h n s v → KC w l mX10_speak (2 * f + 1) 0 0 [.ref 397, .int (nI fr), .int (nI act), .int x, .int (nI dep)] v (fun r z => r = some (.int (kSp K h n f fr act x s).1) ∧ kVX u K h n (kSp K h n f fr act x s).2 z)) (x : Int32) (dep : Nat) (hd : dep + f ≤ 41) {v : KMem} {s : kVS} (hs : kVX u K h n s v) (hfu : (kSub K 30).all (fun q => kFu K f q.1 q.2) = true) : KC w l mX10_work (2 * f + 2) 0 0 [.ref 397, .int 30, .int x, .int (nI dep)] v (fun r z => r = some (.int (kWk (kSp K h n f) K h n 30 x s).1) ∧ kVX u K h n (kWk (kSp K h n f) K h n 30 x s).2 z) := by
  have hv := hs.1.wd hu
  refine KC.of (ls := [_, _, _, _]) rfl rfl (Nat.le_of_ble_eq_true rfl) ?_
  have hf : (kFu K f 1 0 && true) = true := hfu
  simp only [Bool.and_true, Bool.and_eq_true] at hf
  refine kv_iload_n dX10_work_0 rfl ?_
  refine kv_tableIn dX10_work_1 264 (by decide) (by decide) rfl (by decide) ?_
  refine kv_aload_n dX10_work_264 rfl ?_
  refine kv_iconst dX10_work_265 1 ki_1 ?_
  refine kv_iconst dX10_work_266 0 ki_0 ?_
  refine kv_iload_n dX10_work_267 rfl ?_
  refine kv_iload_n dX10_work_268 rfl ?_
  refine kw_VQ [_, _, _, _] mX10_speak dX10_work_269 lX10_32 wX10_speak kC10 hv rfl (by first | rfl | assumption) rfl rfl rfl (hI 1 0 _ dep _ _ (by omega) (by omega) hf (by omega) hs) (by omega) (fun _ v1 q1 => ?_)
  obtain ⟨rfl, hs1⟩ := q1
  have hv1 := hs1.1.wd hu
  refine kv_iconst dX10_work_272 3 ki_3 ?_
  refine kv_imul dX10_work_273 ?_
  exact kv_iret dX10_work_274 rfl ⟨rfl, hs1⟩

set_option maxRecDepth 20000 in
set_option maxHeartbeats 4000000 in
theorem qX10_work_31 {w : KW} {l : Launch} {u : KMem} (hu : kWd u) {K : Nat} (hK : K < 5) {h n : Int32} {f : Nat} (hI : ∀ (fr act : Nat) (x : Int32) (dep : Nat) (v : KMem) (s : kVS), fr < 5 → act < 4 → kFu K f fr act = true → dep + f ≤ 41 → kVX u K h n s v → KC w l mX10_speak (2 * f + 1) 0 0 [.ref 397, .int (nI fr), .int (nI act), .int x, .int (nI dep)] v (fun r z => r = some (.int (kSp K h n f fr act x s).1) ∧ kVX u K h n (kSp K h n f fr act x s).2 z)) (x : Int32) (dep : Nat) (hd : dep + f ≤ 41) {v : KMem} {s : kVS} (hs : kVX u K h n s v) (hfu : (kSub K 31).all (fun q => kFu K f q.1 q.2) = true) : KC w l mX10_work (2 * f + 2) 0 0 [.ref 397, .int 31, .int x, .int (nI dep)] v (fun r z => r = some (.int (kWk (kSp K h n f) K h n 31 x s).1) ∧ kVX u K h n (kWk (kSp K h n f) K h n 31 x s).2 z) := by
  have hv := hs.1.wd hu
  refine KC.of (ls := [_, _, _, _]) rfl rfl (Nat.le_of_ble_eq_true rfl) ?_
  have hf : (kFu K f 1 2 && true) = true := hfu
  simp only [Bool.and_true, Bool.and_eq_true] at hf
  refine kv_iload_n dX10_work_0 rfl ?_
  refine kv_tableIn dX10_work_1 275 (by decide) (by decide) rfl (by decide) ?_
  refine kv_aload_n dX10_work_275 rfl ?_
  refine kv_iconst dX10_work_276 1 ki_1 ?_
  refine kv_iconst dX10_work_277 2 ki_2 ?_
  refine kv_iload_n dX10_work_278 rfl ?_
  refine kv_iload_n dX10_work_279 rfl ?_
  refine kw_VQ [_, _, _, _] mX10_speak dX10_work_280 lX10_32 wX10_speak kC10 hv rfl (by first | rfl | assumption) rfl rfl rfl (hI 1 2 _ dep _ _ (by omega) (by omega) hf (by omega) hs) (by omega) (fun _ v1 q1 => ?_)
  obtain ⟨rfl, hs1⟩ := q1
  have hv1 := hs1.1.wd hu
  refine kv_aload_n dX10_work_283 rfl ?_
  refine kw_gI dX10_work_284 fX10_19 hv1 (by first | rfl | assumption) rfl rfl ?_
  rw [hs1.2.2.2.2.2.2.2.2]
  refine kv_ixor dX10_work_287 ?_
  exact kv_iret dX10_work_288 rfl ⟨rfl, hs1⟩

set_option maxRecDepth 20000 in
set_option maxHeartbeats 4000000 in
theorem qX10_work_40 {w : KW} {l : Launch} {u : KMem} (hu : kWd u) {K : Nat} (hK : K < 5) {h n : Int32} {f : Nat} (hI : ∀ (fr act : Nat) (x : Int32) (dep : Nat) (v : KMem) (s : kVS), fr < 5 → act < 4 → kFu K f fr act = true → dep + f ≤ 41 → kVX u K h n s v → KC w l mX10_speak (2 * f + 1) 0 0 [.ref 397, .int (nI fr), .int (nI act), .int x, .int (nI dep)] v (fun r z => r = some (.int (kSp K h n f fr act x s).1) ∧ kVX u K h n (kSp K h n f fr act x s).2 z)) (x : Int32) (dep : Nat) (hd : dep + f ≤ 41) {v : KMem} {s : kVS} (hs : kVX u K h n s v) (hfu : (kSub K 40).all (fun q => kFu K f q.1 q.2) = true) : KC w l mX10_work (2 * f + 2) 0 0 [.ref 397, .int 40, .int x, .int (nI dep)] v (fun r z => r = some (.int (kWk (kSp K h n f) K h n 40 x s).1) ∧ kVX u K h n (kWk (kSp K h n f) K h n 40 x s).2 z) := by
  have hv := hs.1.wd hu
  refine KC.of (ls := [_, _, _, _]) rfl rfl (Nat.le_of_ble_eq_true rfl) ?_
  have hf : (kFu K f 0 0 && true) = true := hfu
  simp only [Bool.and_true, Bool.and_eq_true] at hf
  refine kv_iload_n dX10_work_0 rfl ?_
  refine kv_tableIn dX10_work_1 289 (by decide) (by decide) rfl (by decide) ?_
  refine kv_iconst dX10_work_289 0 ki_0 ?_
  refine kv_aload_n dX10_work_290 rfl ?_
  refine kv_iconst dX10_work_291 0 ki_0 ?_
  refine kv_iconst dX10_work_292 0 ki_0 ?_
  refine kv_iload_n dX10_work_293 rfl ?_
  refine kv_iload_n dX10_work_294 rfl ?_
  refine kw_VQ [_, _, _, _] mX10_speak dX10_work_295 lX10_32 wX10_speak kC10 hv rfl (by first | rfl | assumption) rfl rfl rfl (hI 0 0 _ dep _ _ (by omega) (by omega) hf (by omega) hs) (by omega) (fun _ v1 q1 => ?_)
  obtain ⟨rfl, hs1⟩ := q1
  have hv1 := hs1.1.wd hu
  refine kv_isub dX10_work_298 ?_
  exact kv_iret dX10_work_299 rfl ⟨rfl, hs1⟩

set_option maxRecDepth 20000 in
set_option maxHeartbeats 4000000 in
theorem qX10_work_41 {w : KW} {l : Launch} {u : KMem} (hu : kWd u) {K : Nat} (hK : K < 5) {h n : Int32} {f : Nat} (hI : ∀ (fr act : Nat) (x : Int32) (dep : Nat) (v : KMem) (s : kVS), fr < 5 → act < 4 → kFu K f fr act = true → dep + f ≤ 41 → kVX u K h n s v → KC w l mX10_speak (2 * f + 1) 0 0 [.ref 397, .int (nI fr), .int (nI act), .int x, .int (nI dep)] v (fun r z => r = some (.int (kSp K h n f fr act x s).1) ∧ kVX u K h n (kSp K h n f fr act x s).2 z)) (x : Int32) (dep : Nat) (hd : dep + f ≤ 41) {v : KMem} {s : kVS} (hs : kVX u K h n s v) (hfu : (kSub K 41).all (fun q => kFu K f q.1 q.2) = true) : KC w l mX10_work (2 * f + 2) 0 0 [.ref 397, .int 41, .int x, .int (nI dep)] v (fun r z => r = some (.int (kWk (kSp K h n f) K h n 41 x s).1) ∧ kVX u K h n (kWk (kSp K h n f) K h n 41 x s).2 z) := by
  have hv := hs.1.wd hu
  refine KC.of (ls := [_, _, _, _]) rfl rfl (Nat.le_of_ble_eq_true rfl) ?_
  have hf : (kFu K f 0 2 && true) = true := hfu
  simp only [Bool.and_true, Bool.and_eq_true] at hf
  refine kv_iload_n dX10_work_0 rfl ?_
  refine kv_tableIn dX10_work_1 300 (by decide) (by decide) rfl (by decide) ?_
  refine kv_aload_n dX10_work_300 rfl ?_
  refine kv_iconst dX10_work_301 0 ki_0 ?_
  refine kv_iconst dX10_work_302 2 ki_2 ?_
  refine kv_iload_n dX10_work_303 rfl ?_
  refine kv_aload_n dX10_work_304 rfl ?_
  refine kw_gI dX10_work_305 fX10_15 hv (by first | rfl | assumption) rfl rfl ?_
  rw [hs.2.2.2.2.2.2.2.1]
  refine kv_iadd dX10_work_308 ?_
  refine kv_iload_n dX10_work_309 rfl ?_
  refine kw_VQ [_, _, _, _] mX10_speak dX10_work_310 lX10_32 wX10_speak kC10 hv rfl (by first | rfl | assumption) rfl rfl rfl (hI 0 2 _ dep _ _ (by omega) (by omega) hf (by omega) hs) (by omega) (fun _ v1 q1 => ?_)
  obtain ⟨rfl, hs1⟩ := q1
  have hv1 := hs1.1.wd hu
  exact kv_iret dX10_work_313 rfl ⟨rfl, hs1⟩

set_option maxRecDepth 20000 in
set_option maxHeartbeats 4000000 in
theorem qX10_work_50 {w : KW} {l : Launch} {u : KMem} (hu : kWd u) {K : Nat} (hK : K < 5) {h n : Int32} {f : Nat} (hI : ∀ (fr act : Nat) (x : Int32) (dep : Nat) (v : KMem) (s : kVS), fr < 5 → act < 4 → kFu K f fr act = true → dep + f ≤ 41 → kVX u K h n s v → KC w l mX10_speak (2 * f + 1) 0 0 [.ref 397, .int (nI fr), .int (nI act), .int x, .int (nI dep)] v (fun r z => r = some (.int (kSp K h n f fr act x s).1) ∧ kVX u K h n (kSp K h n f fr act x s).2 z)) (x : Int32) (dep : Nat) (hd : dep + f ≤ 41) {v : KMem} {s : kVS} (hs : kVX u K h n s v) (hfu : (kSub K 50).all (fun q => kFu K f q.1 q.2) = true) : KC w l mX10_work (2 * f + 2) 0 0 [.ref 397, .int 50, .int x, .int (nI dep)] v (fun r z => r = some (.int (kWk (kSp K h n f) K h n 50 x s).1) ∧ kVX u K h n (kWk (kSp K h n f) K h n 50 x s).2 z) := by
  have hv := hs.1.wd hu
  refine KC.of (ls := [_, _, _, _]) rfl rfl (Nat.le_of_ble_eq_true rfl) ?_
  have hf : (kFu K f 3 1 && true) = true := hfu
  simp only [Bool.and_true, Bool.and_eq_true] at hf
  refine kv_iload_n dX10_work_0 rfl ?_
  refine kv_tableIn dX10_work_1 314 (by decide) (by decide) rfl (by decide) ?_
  refine kv_aload_n dX10_work_314 rfl ?_
  refine kv_iconst dX10_work_315 3 ki_3 ?_
  refine kv_iconst dX10_work_316 1 ki_1 ?_
  refine kv_iload_n dX10_work_317 rfl ?_
  refine kv_iload_n dX10_work_318 rfl ?_
  refine kw_VQ [_, _, _, _] mX10_speak dX10_work_319 lX10_32 wX10_speak kC10 hv rfl (by first | rfl | assumption) rfl rfl rfl (hI 3 1 _ dep _ _ (by omega) (by omega) hf (by omega) hs) (by omega) (fun _ v1 q1 => ?_)
  obtain ⟨rfl, hs1⟩ := q1
  have hv1 := hs1.1.wd hu
  refine kv_iconst dX10_work_322 2 ki_2 ?_
  refine kv_idiv dX10_work_323 (by decide) ?_
  exact kv_iret dX10_work_324 rfl ⟨rfl, hs1⟩

set_option maxRecDepth 20000 in
set_option maxHeartbeats 4000000 in
theorem qX10_work_51 {w : KW} {l : Launch} {u : KMem} (hu : kWd u) {K : Nat} (hK : K < 5) {h n : Int32} {f : Nat} (hI : ∀ (fr act : Nat) (x : Int32) (dep : Nat) (v : KMem) (s : kVS), fr < 5 → act < 4 → kFu K f fr act = true → dep + f ≤ 41 → kVX u K h n s v → KC w l mX10_speak (2 * f + 1) 0 0 [.ref 397, .int (nI fr), .int (nI act), .int x, .int (nI dep)] v (fun r z => r = some (.int (kSp K h n f fr act x s).1) ∧ kVX u K h n (kSp K h n f fr act x s).2 z)) (x : Int32) (dep : Nat) (hd : dep + f ≤ 41) {v : KMem} {s : kVS} (hs : kVX u K h n s v) (hfu : (kSub K 51).all (fun q => kFu K f q.1 q.2) = true) : KC w l mX10_work (2 * f + 2) 0 0 [.ref 397, .int 51, .int x, .int (nI dep)] v (fun r z => r = some (.int (kWk (kSp K h n f) K h n 51 x s).1) ∧ kVX u K h n (kWk (kSp K h n f) K h n 51 x s).2 z) := by
  have hv := hs.1.wd hu
  refine KC.of (ls := [_, _, _, _]) rfl rfl (Nat.le_of_ble_eq_true rfl) ?_
  have hf : (kFu K f 3 2 && (kFu K f K 0 && true)) = true := hfu
  simp only [Bool.and_true, Bool.and_eq_true] at hf
  refine kv_iload_n dX10_work_0 rfl ?_
  refine kv_tableIn dX10_work_1 325 (by decide) (by decide) rfl (by decide) ?_
  refine kv_aload_n dX10_work_325 rfl ?_
  refine kv_iconst dX10_work_326 3 ki_3 ?_
  refine kv_iconst dX10_work_327 2 ki_2 ?_
  refine kv_iload_n dX10_work_328 rfl ?_
  refine kv_iload_n dX10_work_329 rfl ?_
  refine kw_VQ [_, _, _, _] mX10_speak dX10_work_330 lX10_32 wX10_speak kC10 hv rfl (by first | rfl | assumption) rfl rfl rfl (hI 3 2 _ dep _ _ (by omega) (by omega) hf.1 (by omega) hs) (by omega) (fun _ v1 q1 => ?_)
  obtain ⟨rfl, hs1⟩ := q1
  have hv1 := hs1.1.wd hu
  refine kv_aload_n dX10_work_333 rfl ?_
  refine kv_aload_n dX10_work_334 rfl ?_
  refine kw_gI dX10_work_335 fX10_22 hv1 (by first | rfl | assumption) rfl rfl ?_
  rw [hs1.2.2.2.2.2.2.1]
  refine kv_iconst dX10_work_338 0 ki_0 ?_
  refine kv_iconst dX10_work_339 2 ki_2 ?_
  refine kv_iload_n dX10_work_340 rfl ?_
  refine kw_VQ [_, _, _, _] mX10_speak dX10_work_341 lX10_32 wX10_speak kC10 hv1 rfl (by first | rfl | assumption) rfl rfl rfl (hI K 0 _ dep _ _ (by omega) (by omega) hf.2 (by omega) hs1) (by omega) (fun _ v2 q2 => ?_)
  obtain ⟨rfl, hs2⟩ := q2
  have hv2 := hs2.1.wd hu
  refine kv_isub dX10_work_344 ?_
  exact kv_iret dX10_work_345 rfl ⟨rfl, hs2⟩

set_option maxRecDepth 20000 in
set_option maxHeartbeats 4000000 in
theorem qX10_work_52 {w : KW} {l : Launch} {u : KMem} (hu : kWd u) {K : Nat} (hK : K < 5) {h n : Int32} {f : Nat} (hI : ∀ (fr act : Nat) (x : Int32) (dep : Nat) (v : KMem) (s : kVS), fr < 5 → act < 4 → kFu K f fr act = true → dep + f ≤ 41 → kVX u K h n s v → KC w l mX10_speak (2 * f + 1) 0 0 [.ref 397, .int (nI fr), .int (nI act), .int x, .int (nI dep)] v (fun r z => r = some (.int (kSp K h n f fr act x s).1) ∧ kVX u K h n (kSp K h n f fr act x s).2 z)) (x : Int32) (dep : Nat) (hd : dep + f ≤ 41) {v : KMem} {s : kVS} (hs : kVX u K h n s v) (hfu : (kSub K 52).all (fun q => kFu K f q.1 q.2) = true) : KC w l mX10_work (2 * f + 2) 0 0 [.ref 397, .int 52, .int x, .int (nI dep)] v (fun r z => r = some (.int (kWk (kSp K h n f) K h n 52 x s).1) ∧ kVX u K h n (kWk (kSp K h n f) K h n 52 x s).2 z) := by
  have hv := hs.1.wd hu
  refine KC.of (ls := [_, _, _, _]) rfl rfl (Nat.le_of_ble_eq_true rfl) ?_
  have hf : (kFu K f K 0 && (kFu K f 3 3 && true)) = true := hfu
  simp only [Bool.and_true, Bool.and_eq_true] at hf
  refine kv_iload_n dX10_work_0 rfl ?_
  refine kv_tableIn dX10_work_1 346 (by decide) (by decide) rfl (by decide) ?_
  refine kv_aload_n dX10_work_346 rfl ?_
  refine kv_aload_n dX10_work_347 rfl ?_
  refine kw_gI dX10_work_348 fX10_22 hv (by first | rfl | assumption) rfl rfl ?_
  rw [hs.2.2.2.2.2.2.1]
  refine kv_iconst dX10_work_351 0 ki_0 ?_
  refine kv_iload_n dX10_work_352 rfl ?_
  refine kv_iload_n dX10_work_353 rfl ?_
  refine kw_VQ [_, _, _, _] mX10_speak dX10_work_354 lX10_32 wX10_speak kC10 hv rfl (by first | rfl | assumption) rfl rfl rfl (hI K 0 _ dep _ _ (by omega) (by omega) hf.1 (by omega) hs) (by omega) (fun _ v1 q1 => ?_)
  obtain ⟨rfl, hs1⟩ := q1
  have hv1 := hs1.1.wd hu
  refine kv_aload_n dX10_work_357 rfl ?_
  refine kv_iconst dX10_work_358 3 ki_3 ?_
  refine kv_iconst dX10_work_359 3 ki_3 ?_
  refine kv_iload_n dX10_work_360 rfl ?_
  refine kv_iload_n dX10_work_361 rfl ?_
  refine kw_VQ [_, _, _, _] mX10_speak dX10_work_362 lX10_32 wX10_speak kC10 hv1 rfl (by first | rfl | assumption) rfl rfl rfl (hI 3 3 _ dep _ _ (by omega) (by omega) hf.2 (by omega) hs1) (by omega) (fun _ v2 q2 => ?_)
  obtain ⟨rfl, hs2⟩ := q2
  have hv2 := hs2.1.wd hu
  refine kv_isub dX10_work_365 ?_
  exact kv_iret dX10_work_366 rfl ⟨rfl, hs2⟩

theorem qX10_work {w : KW} {l : Launch} {u : KMem} (hu : kWd u) {K : Nat} (hK : K < 5) {h n : Int32} {f : Nat} (hI : ∀ (fr act : Nat) (x : Int32) (dep : Nat) (v : KMem) (s : kVS), fr < 5 → act < 4 → kFu K f fr act = true → dep + f ≤ 41 → kVX u K h n s v → KC w l mX10_speak (2 * f + 1) 0 0 [.ref 397, .int (nI fr), .int (nI act), .int x, .int (nI dep)] v (fun r z => r = some (.int (kSp K h n f fr act x s).1) ∧ kVX u K h n (kSp K h n f fr act x s).2 z)) (b : Nat) (hb : b = 10 ∨ b = 11 ∨ b = 12 ∨ b = 13 ∨ b = 20 ∨ b = 21 ∨ b = 30 ∨ b = 31 ∨ b = 40 ∨ b = 41 ∨ b = 50 ∨ b = 51 ∨ b = 52) (x : Int32) (dep : Nat) (hd : dep + f ≤ 41) {v : KMem} {s : kVS} (hs : kVX u K h n s v) (hfu : (kSub K b).all (fun q => kFu K f q.1 q.2) = true) : KC w l mX10_work (2 * f + 2) 0 0 [.ref 397, .int (nI b), .int x, .int (nI dep)] v (fun r z => r = some (.int (kWk (kSp K h n f) K h n b x s).1) ∧ kVX u K h n (kWk (kSp K h n f) K h n b x s).2 z) := by
  rcases hb with rfl | rfl | rfl | rfl | rfl | rfl | rfl | rfl | rfl | rfl | rfl | rfl | rfl
  · exact qX10_work_10 hu hK hI x dep hd hs hfu
  · exact qX10_work_11 hu hK hI x dep hd hs hfu
  · exact qX10_work_12 hu hK hI x dep hd hs hfu
  · exact qX10_work_13 hu hK hI x dep hd hs hfu
  · exact qX10_work_20 hu hK hI x dep hd hs hfu
  · exact qX10_work_21 hu hK hI x dep hd hs hfu
  · exact qX10_work_30 hu hK hI x dep hd hs hfu
  · exact qX10_work_31 hu hK hI x dep hd hs hfu
  · exact qX10_work_40 hu hK hI x dep hd hs hfu
  · exact qX10_work_41 hu hK hI x dep hd hs hfu
  · exact qX10_work_50 hu hK hI x dep hd hs hfu
  · exact qX10_work_51 hu hK hI x dep hd hs hfu
  · exact qX10_work_52 hu hK hI x dep hd hs hfu
set_option maxRecDepth 20000 in
set_option maxHeartbeats 4000000 in
theorem qX10_speak_s {w : KW} {l : Launch} {u : KMem} (hu : kWd u) {K : Nat} (hK : K < 5) {h n : Int32} {f : Nat} (hI : ∀ (fr act : Nat) (x : Int32) (dep : Nat) (v : KMem) (s : kVS), fr < 5 → act < 4 → kFu K f fr act = true → dep + f ≤ 41 → kVX u K h n s v → KC w l mX10_speak (2 * f + 1) 0 0 [.ref 397, .int (nI fr), .int (nI act), .int x, .int (nI dep)] v (fun r z => r = some (.int (kSp K h n f fr act x s).1) ∧ kVX u K h n (kSp K h n f fr act x s).2 z)) (fr act : Nat) (x : Int32) (dep : Nat) {v : KMem} {s : kVS} (hfr : fr < 5) (hact : act < 4) (hfu : kFu K (f + 1) fr act = true) (hd : dep + (f + 1) ≤ 41) (hs : kVX u K h n s v) : KC w l mX10_speak (2 * (f + 1) + 1) 0 0 [.ref 397, .int (nI fr), .int (nI act), .int x, .int (nI dep)] v (fun r z => r = some (.int (kSp K h n (f + 1) fr act x s).1) ∧ kVX u K h n (kSp K h n (f + 1) fr act x s).2 z) := by
  have hv := hs.1.wd hu
  have h30 := hs.2.2.1
  refine KC.of (ls := [_, _, _, _, _, _]) rfl rfl (Nat.le_of_ble_eq_true rfl) ?_
  refine kv_aload_n dX10_speak_0 rfl ?_
  refine kw_gI dX10_speak_1 fX10_28 hv (by first | rfl | assumption) rfl rfl ?_
  rw [hs.2.2.2.2.1]
  refine kv_if_ne dX10_speak_4 14 (by decide) (fun h1 => ?_) (fun h1 => ?_)
  · have hp := h1
    refine kv_iconst dX10_speak_14 0 ki_0 ?_
    exact kv_iret dX10_speak_15 rfl ⟨by rw [kSp_y hp], by rw [kSp_y hp]; exact hs⟩
  · have hp := h1
    refine kv_iload dX10_speak_7 rfl ?_
    refine kv_bipush dX10_speak_9 40 kb_40 ?_
    refine kv_icmp_le dX10_speak_11 16 (by decide) (fun h2 => ?_) (fun h2 => ?_)
    · refine kv_iload_n dX10_speak_16 rfl ?_
      refine kv_iload_n dX10_speak_17 rfl ?_
      refine kw_Si [_, _] mX10_bodyOf dX10_speak_18 lX10_36 wX10_bodyOf rfl rfl rfl (qX10_bodyOf hv fr act hfr hact) (by omega) ?_
      refine kv_istore (ls2 := [_, _, _, _, _, _]) dX10_speak_21 rfl rfl rfl rfl ?_
      refine kv_aload_n dX10_speak_23 rfl ?_
      refine kw_gI dX10_speak_24 fX10_25 hv (by first | rfl | assumption) rfl rfl ?_
      rw [hs.2.1]
      refine kv_bipush dX10_speak_27 30 kb_30 ?_
      refine kv_icmp_ge dX10_speak_29 53 (by decide) (fun h3 => ?_) (fun h3 => ?_)
      · have ht : ¬ s.2.1 < 30 := fun q => nI_ge (b := 30) q (by omega) h3
        have hT : kTr s (kBody fr act) = s := if_neg ht
        have hs1 : kVX u K h n (kTr s (kBody fr act)) v := by rw [hT]; exact hs
        first
        | (have hs2 := hs1)
        | (have hs2 : kVX u K h n (kTr s (kBody fr act)) (kv_si (kv_si v 398 s.2.1 (nI (kBody fr act))) 397 1 (nI s.2.1 + 1)) := by
            rw [hT]
            refine ⟨(hs.1.si (Or.inr rfl)).si (Or.inl rfl), ?_, ?_, fun k hk => ?_, ?_, hs.2.2.2.2.2.1, ?_, ?_, ?_⟩
            · rw [kv_si_s]; exact kn_add rfl (show (1 : Int32) = nI 1 from rfl)
            · show s.2.1 + 1 ≤ 30; omega
            · rw [kv_si_a (by decide)]
              show _ = kSet s.1 s.2.1 (nI (kBody fr act)) k
              by_cases q : k = s.2.1
              · rw [q, kv_si_s, kSet_s]
              · rw [kv_si_n (by omega), kSet_n q]
                have hk2 : k < s.2.1 + 1 := hk
                exact hs.2.2.2.1 k (by omega)
            · rw [kv_si_n (by omega), kv_si_a (by decide)]; exact hs.2.2.2.2.1
            · rw [kv_si_n (by omega), kv_si_a (by decide)]; exact hs.2.2.2.2.2.2.1
            · rw [kv_si_n (by omega), kv_si_a (by decide)]; exact hs.2.2.2.2.2.2.2.1
            · rw [kv_si_n (by omega), kv_si_a (by decide)]; exact hs.2.2.2.2.2.2.2.2)
        refine kv_aload_n dX10_speak_53 rfl ?_
        refine kv_iload dX10_speak_54 rfl ?_
        refine kv_iload_n dX10_speak_56 rfl ?_
        refine kv_iload dX10_speak_57 rfl ?_
        refine kv_iconst dX10_speak_59 1 ki_1 ?_
        refine kv_iadd dX10_speak_60 ?_
        rw [show (nI dep + 1 : Int32) = nI (dep + 1) from kn_add rfl (show (1 : Int32) = nI 1 from rfl)]
        refine kw_VQ [_, _, _] mX10_work dX10_speak_61 lX10_40 wX10_work kC10 hv rfl (by first | rfl | assumption) rfl rfl rfl (qX10_work hu hK hI (kBody fr act) (kBody_l fr hfr act hact) x (dep + 1) (by omega) hs2 hfu) (by omega) (fun _ v1 q1 => ?_)
        obtain ⟨rfl, hs3⟩ := q1
        have hv3 := hs3.1.wd hu
        exact kv_iret dX10_speak_64 rfl ⟨by rw [kSp_n hp], by rw [kSp_n hp]; exact hs3⟩
      · have ht : s.2.1 < 30 := Nat.lt_of_not_le (fun q => h3 (nI_le (a := 30) q (by omega)))
        have hT : kTr s (kBody fr act) = (kSet s.1 s.2.1 (nI (kBody fr act)), s.2.1 + 1, s.2.2) := if_pos ht
        refine kv_aload_n dX10_speak_32 rfl ?_
        refine kw_gR dX10_speak_33 fX10_9 hv (by first | rfl | assumption) rfl rfl (by first | rfl | assumption) ?_
        refine kv_aload_n dX10_speak_36 rfl ?_
        refine kw_gI dX10_speak_37 fX10_25 hv (by first | rfl | assumption) rfl rfl ?_
        rw [hs.2.1]
        refine kv_iload dX10_speak_40 rfl ?_
        refine kw_is dX10_speak_42 hv (by first | rfl | assumption) (s.2.1) rfl (by omega) rfl ?_
        refine kv_aload_n dX10_speak_43 rfl ?_
        refine kv_dup dX10_speak_44 rfl ?_
        refine kw_gI dX10_speak_45 fX10_25 hv (by first | rfl | assumption) rfl rfl ?_
        rw [(kv_si_a (by decide)), hs.2.1]
        refine kv_iconst dX10_speak_48 1 ki_1 ?_
        refine kv_iadd dX10_speak_49 ?_
        refine kw_pI dX10_speak_50 fX10_25 hv (by first | rfl | assumption) rfl rfl ?_
        first
        | (have hs2 := hs1)
        | (have hs2 : kVX u K h n (kTr s (kBody fr act)) (kv_si (kv_si v 398 s.2.1 (nI (kBody fr act))) 397 1 (nI s.2.1 + 1)) := by
            rw [hT]
            refine ⟨(hs.1.si (Or.inr rfl)).si (Or.inl rfl), ?_, ?_, fun k hk => ?_, ?_, hs.2.2.2.2.2.1, ?_, ?_, ?_⟩
            · rw [kv_si_s]; exact kn_add rfl (show (1 : Int32) = nI 1 from rfl)
            · show s.2.1 + 1 ≤ 30; omega
            · rw [kv_si_a (by decide)]
              show _ = kSet s.1 s.2.1 (nI (kBody fr act)) k
              by_cases q : k = s.2.1
              · rw [q, kv_si_s, kSet_s]
              · rw [kv_si_n (by omega), kSet_n q]
                have hk2 : k < s.2.1 + 1 := hk
                exact hs.2.2.2.1 k (by omega)
            · rw [kv_si_n (by omega), kv_si_a (by decide)]; exact hs.2.2.2.2.1
            · rw [kv_si_n (by omega), kv_si_a (by decide)]; exact hs.2.2.2.2.2.2.1
            · rw [kv_si_n (by omega), kv_si_a (by decide)]; exact hs.2.2.2.2.2.2.2.1
            · rw [kv_si_n (by omega), kv_si_a (by decide)]; exact hs.2.2.2.2.2.2.2.2)
        refine kv_aload_n dX10_speak_53 rfl ?_
        refine kv_iload dX10_speak_54 rfl ?_
        refine kv_iload_n dX10_speak_56 rfl ?_
        refine kv_iload dX10_speak_57 rfl ?_
        refine kv_iconst dX10_speak_59 1 ki_1 ?_
        refine kv_iadd dX10_speak_60 ?_
        rw [show (nI dep + 1 : Int32) = nI (dep + 1) from kn_add rfl (show (1 : Int32) = nI 1 from rfl)]
        refine kw_VQ [_, _, _] mX10_work dX10_speak_61 lX10_40 wX10_work kC10 hv rfl (by first | rfl | assumption) rfl rfl rfl (qX10_work hu hK hI (kBody fr act) (kBody_l fr hfr act hact) x (dep + 1) (by omega) hs2 hfu) (by omega) (fun _ v1 q1 => ?_)
        obtain ⟨rfl, hs3⟩ := q1
        have hv3 := hs3.1.wd hu
        exact kv_iret dX10_speak_64 rfl ⟨by rw [kSp_n hp], by rw [kSp_n hp]; exact hs3⟩
    · exact absurd (nI_le (b := 40) (by omega) (by omega)) h2

theorem qX10_speak {w : KW} {l : Launch} {u : KMem} (hu : kWd u) {K : Nat} (hK : K < 5) {h n : Int32} : ∀ (f fr act : Nat) (x : Int32) (dep : Nat) (v : KMem) (s : kVS), fr < 5 → act < 4 → kFu K f fr act = true → dep + f ≤ 41 → kVX u K h n s v → KC w l mX10_speak (2 * f + 1) 0 0 [.ref 397, .int (nI fr), .int (nI act), .int x, .int (nI dep)] v (fun r z => r = some (.int (kSp K h n f fr act x s).1) ∧ kVX u K h n (kSp K h n f fr act x s).2 z)
  | 0, _, _, _, _, _, _, _, _, h0, _, _ => absurd h0 (by unfold kFu; decide)
  | f + 1, fr, act, x, dep, v, s, h1, h2, h3, h4, h5 => qX10_speak_s hu hK (qX10_speak hu hK f) fr act x dep h1 h2 h3 h4 h5
