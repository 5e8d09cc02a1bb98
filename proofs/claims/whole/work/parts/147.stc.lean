/-! THE STORE'S CONSTRUCTOR -/
theorem kv_al_r {u : KMem} {b k n : Nat} (hn : u.1 = n) (h : ¬ b = n) : (kv_al u).2.2.2 b k = u.2.2.2 b k := if_neg (by rw [hn]; exact h)
theorem kv_wr_r (u : KMem) (a : Nat) (f : Nat → Int32) : (kv_rw u a f).2.2.2 = u.2.2.2 := rfl
theorem kXr_s {s i j t e k : Nat} : kXr s i j t e s k = kv_rfS 0 s k := by
  unfold kXr
  rw [if_neg (by omega), if_neg (by omega), if_neg (by omega), if_neg (by omega), Nat.sub_self]
theorem kXr_n {s o k : Nat} (h1 : 1 ≤ o) (h2 : o < 12) : kXr s 0 0 0 0 (s + o) k = none := by
  unfold kXr
  by_cases y1 : o = 1
  · subst y1; rw [if_pos rfl, if_neg (by omega)]
  rw [if_neg (by omega)]
  by_cases y5 : o = 5
  · subst y5; rw [if_pos rfl, if_neg (by omega)]
  rw [if_neg (by omega)]
  by_cases y6 : o = 6
  · subst y6; rw [if_pos rfl, if_neg (by omega)]
  rw [if_neg (by omega)]
  by_cases y7 : o = 7
  · subst y7; rw [if_pos rfl, if_neg (by omega)]
  rw [if_neg (by omega), show s + o - s = o by omega]
  unfold kv_rfS
  rw [if_neg (by omega), if_neg y1, if_neg y5, if_neg y6, if_neg y7, if_pos (by omega)]
theorem kr_0 {s k c : Nat} (h : kv_rfS 0 s k = some c) : k < 19 := by
  refine Nat.not_le.mp fun hk => ?_
  unfold kv_rfS at h
  rw [if_pos rfl, List.getD_eq_getElem?_getD, List.getElem?_eq_none (by show 19 ≤ k; exact hk)] at h
  exact absurd h (by simp)
set_option maxHeartbeats 4000000 in
theorem kSI_0 {s : Nat} {u : KMem} (hn : u.1 = s + 1) (z1 : ∀ k, u.2.1 s k = 0) (z2 : ∀ k, u.2.2.1 s k = 0) : kSI s 0 0 0 0 u (kv_si (kv_sr (kv_al (kv_sr (kv_al (kv_sr (kv_rw (kv_al (kv_sr (kv_al (kv_sr (kv_al (kv_sr (kv_al (kv_sr (kv_al (kv_sr (kv_al (kv_sr (kv_al (kv_sr (kv_al (kv_sr (kv_al u) s 0 (some (u.1)))) s 2 (some (u.1 + 1)))) s 3 (some (u.1 + 2)))) s 4 (some (u.1 + 3)))) s 6 (some (u.1 + 4)))) s 8 (some (u.1 + 5)))) s 10 (some (u.1 + 6)))) s 12 (some (u.1 + 7)))) (u.1 + 8) kRt) s 13 (some (u.1 + 8)))) s 14 (some (u.1 + 9)))) s 16 (some (u.1 + 10))) s 18 1) := by
  have rI : ∀ b k, (kv_si (kv_sr (kv_al (kv_sr (kv_al (kv_sr (kv_rw (kv_al (kv_sr (kv_al (kv_sr (kv_al (kv_sr (kv_al (kv_sr (kv_al (kv_sr (kv_al (kv_sr (kv_al (kv_sr (kv_al (kv_sr (kv_al u) s 0 (some (u.1)))) s 2 (some (u.1 + 1)))) s 3 (some (u.1 + 2)))) s 4 (some (u.1 + 3)))) s 6 (some (u.1 + 4)))) s 8 (some (u.1 + 5)))) s 10 (some (u.1 + 6)))) s 12 (some (u.1 + 7)))) (u.1 + 8) kRt) s 13 (some (u.1 + 8)))) s 14 (some (u.1 + 9)))) s 16 (some (u.1 + 10))) s 18 1).2.1 b k = if b = s then (if k = 18 then 1 else (if b = u.1 + 10 then 0 else (if b = u.1 + 9 then 0 else (if b = u.1 + 8 then kRt k else (if b = u.1 + 8 then 0 else (if b = u.1 + 7 then 0 else (if b = u.1 + 6 then 0 else (if b = u.1 + 5 then 0 else (if b = u.1 + 4 then 0 else (if b = u.1 + 3 then 0 else (if b = u.1 + 2 then 0 else (if b = u.1 + 1 then 0 else (if b = u.1 then 0 else (u.2.1 b k)))))))))))))) else (if b = u.1 + 10 then 0 else (if b = u.1 + 9 then 0 else (if b = u.1 + 8 then kRt k else (if b = u.1 + 8 then 0 else (if b = u.1 + 7 then 0 else (if b = u.1 + 6 then 0 else (if b = u.1 + 5 then 0 else (if b = u.1 + 4 then 0 else (if b = u.1 + 3 then 0 else (if b = u.1 + 2 then 0 else (if b = u.1 + 1 then 0 else (if b = u.1 then 0 else (u.2.1 b k))))))))))))) := fun b k => rfl
  have rJ : ∀ b k, (kv_si (kv_sr (kv_al (kv_sr (kv_al (kv_sr (kv_rw (kv_al (kv_sr (kv_al (kv_sr (kv_al (kv_sr (kv_al (kv_sr (kv_al (kv_sr (kv_al (kv_sr (kv_al (kv_sr (kv_al (kv_sr (kv_al u) s 0 (some (u.1)))) s 2 (some (u.1 + 1)))) s 3 (some (u.1 + 2)))) s 4 (some (u.1 + 3)))) s 6 (some (u.1 + 4)))) s 8 (some (u.1 + 5)))) s 10 (some (u.1 + 6)))) s 12 (some (u.1 + 7)))) (u.1 + 8) kRt) s 13 (some (u.1 + 8)))) s 14 (some (u.1 + 9)))) s 16 (some (u.1 + 10))) s 18 1).2.2.1 b k = if b = u.1 + 10 then 0 else (if b = u.1 + 9 then 0 else (if b = u.1 + 8 then 0 else (if b = u.1 + 7 then 0 else (if b = u.1 + 6 then 0 else (if b = u.1 + 5 then 0 else (if b = u.1 + 4 then 0 else (if b = u.1 + 3 then 0 else (if b = u.1 + 2 then 0 else (if b = u.1 + 1 then 0 else (if b = u.1 then 0 else (u.2.2.1 b k))))))))))) := fun b k => rfl
  have hsz : (kv_si (kv_sr (kv_al (kv_sr (kv_al (kv_sr (kv_rw (kv_al (kv_sr (kv_al (kv_sr (kv_al (kv_sr (kv_al (kv_sr (kv_al (kv_sr (kv_al (kv_sr (kv_al (kv_sr (kv_al (kv_sr (kv_al u) s 0 (some (u.1)))) s 2 (some (u.1 + 1)))) s 3 (some (u.1 + 2)))) s 4 (some (u.1 + 3)))) s 6 (some (u.1 + 4)))) s 8 (some (u.1 + 5)))) s 10 (some (u.1 + 6)))) s 12 (some (u.1 + 7)))) (u.1 + 8) kRt) s 13 (some (u.1 + 8)))) s 14 (some (u.1 + 9)))) s 16 (some (u.1 + 10))) s 18 1).1 = u.1 + 11 := rfl
  refine ⟨by rw [hsz]; omega, fun b q k => ⟨?_, ?_, ?_⟩, fun b q1 q2 k => ?_, fun b q1 q2 k => ?_, fun b q1 q2 k c hc => ?_⟩
  · rw [rI]; repeat first | rw [if_neg (by omega)] | rw [if_pos (by omega)]
  · rw [rJ]; repeat first | rw [if_neg (by omega)] | rw [if_pos (by omega)]
  · show (kv_sr (kv_al (kv_sr (kv_al (kv_sr (kv_rw (kv_al (kv_sr (kv_al (kv_sr (kv_al (kv_sr (kv_al (kv_sr (kv_al (kv_sr (kv_al (kv_sr (kv_al (kv_sr (kv_al (kv_sr (kv_al u) s 0 (some (u.1)))) s 2 (some (u.1 + 1)))) s 3 (some (u.1 + 2)))) s 4 (some (u.1 + 3)))) s 6 (some (u.1 + 4)))) s 8 (some (u.1 + 5)))) s 10 (some (u.1 + 6)))) s 12 (some (u.1 + 7)))) (u.1 + 8) kRt) s 13 (some (u.1 + 8)))) s 14 (some (u.1 + 9)))) s 16 (some (u.1 + 10))).2.2.2 b k = _
    rw [kv_sr_n (by omega)]
    rw [kv_al_r (n := u.1 + 10) rfl (by omega)]
    rw [kv_sr_n (by omega)]
    rw [kv_al_r (n := u.1 + 9) rfl (by omega)]
    rw [kv_sr_n (by omega)]
    rw [kv_wr_r]
    rw [kv_al_r (n := u.1 + 8) rfl (by omega)]
    rw [kv_sr_n (by omega)]
    rw [kv_al_r (n := u.1 + 7) rfl (by omega)]
    rw [kv_sr_n (by omega)]
    rw [kv_al_r (n := u.1 + 6) rfl (by omega)]
    rw [kv_sr_n (by omega)]
    rw [kv_al_r (n := u.1 + 5) rfl (by omega)]
    rw [kv_sr_n (by omega)]
    rw [kv_al_r (n := u.1 + 4) rfl (by omega)]
    rw [kv_sr_n (by omega)]
    rw [kv_al_r (n := u.1 + 3) rfl (by omega)]
    rw [kv_sr_n (by omega)]
    rw [kv_al_r (n := u.1 + 2) rfl (by omega)]
    rw [kv_sr_n (by omega)]
    rw [kv_al_r (n := u.1 + 1) rfl (by omega)]
    rw [kv_sr_n (by omega)]
    rw [kv_al_r (n := u.1) rfl (by omega)]
  · rw [hsz] at q2
    rw [rI]
    unfold kIS
    rcases (show b = s ∨ b = s + 1 ∨ b = s + 2 ∨ b = s + 3 ∨ b = s + 4 ∨ b = s + 5 ∨ b = s + 6 ∨ b = s + 7 ∨ b = s + 8 ∨ b = s + 9 ∨ b = s + 10 ∨ b = s + 11 by omega) with rfl | rfl | rfl | rfl | rfl | rfl | rfl | rfl | rfl | rfl | rfl | rfl
    · rw [if_pos rfl, if_pos rfl]
      by_cases zk : k = 18
      · rw [if_pos zk, if_pos zk]
      · rw [if_neg zk, if_neg zk]
        repeat first | rw [if_neg (by omega)] | rw [if_pos (by omega)]
        exact z1 k
    · repeat first | rw [if_neg (by omega)] | rw [if_pos (by omega)]
    · repeat first | rw [if_neg (by omega)] | rw [if_pos (by omega)]
    · repeat first | rw [if_neg (by omega)] | rw [if_pos (by omega)]
    · repeat first | rw [if_neg (by omega)] | rw [if_pos (by omega)]
    · repeat first | rw [if_neg (by omega)] | rw [if_pos (by omega)]
    · repeat first | rw [if_neg (by omega)] | rw [if_pos (by omega)]
    · repeat first | rw [if_neg (by omega)] | rw [if_pos (by omega)]
    · repeat first | rw [if_neg (by omega)] | rw [if_pos (by omega)]
    · repeat first | rw [if_neg (by omega)] | rw [if_pos (by omega)]
    · repeat first | rw [if_neg (by omega)] | rw [if_pos (by omega)]
    · repeat first | rw [if_neg (by omega)] | rw [if_pos (by omega)]
  · rw [hsz] at q2
    rw [rJ]
    rcases (show b = s ∨ b = s + 1 ∨ b = s + 2 ∨ b = s + 3 ∨ b = s + 4 ∨ b = s + 5 ∨ b = s + 6 ∨ b = s + 7 ∨ b = s + 8 ∨ b = s + 9 ∨ b = s + 10 ∨ b = s + 11 by omega) with rfl | rfl | rfl | rfl | rfl | rfl | rfl | rfl | rfl | rfl | rfl | rfl
    · repeat first | rw [if_neg (by omega)] | rw [if_pos (by omega)]
      exact z2 k
    · repeat first | rw [if_neg (by omega)] | rw [if_pos (by omega)]
    · repeat first | rw [if_neg (by omega)] | rw [if_pos (by omega)]
    · repeat first | rw [if_neg (by omega)] | rw [if_pos (by omega)]
    · repeat first | rw [if_neg (by omega)] | rw [if_pos (by omega)]
    · repeat first | rw [if_neg (by omega)] | rw [if_pos (by omega)]
    · repeat first | rw [if_neg (by omega)] | rw [if_pos (by omega)]
    · repeat first | rw [if_neg (by omega)] | rw [if_pos (by omega)]
    · repeat first | rw [if_neg (by omega)] | rw [if_pos (by omega)]
    · repeat first | rw [if_neg (by omega)] | rw [if_pos (by omega)]
    · repeat first | rw [if_neg (by omega)] | rw [if_pos (by omega)]
    · repeat first | rw [if_neg (by omega)] | rw [if_pos (by omega)]
  · rw [hsz] at q2
    by_cases zb : b = s
    · subst zb
      rw [kXr_s] at hc
      have hk := kr_0 hc
      show (kv_sr (kv_al (kv_sr (kv_al (kv_sr (kv_rw (kv_al (kv_sr (kv_al (kv_sr (kv_al (kv_sr (kv_al (kv_sr (kv_al (kv_sr (kv_al (kv_sr (kv_al (kv_sr (kv_al (kv_sr (kv_al u) b 0 (some (u.1)))) b 2 (some (u.1 + 1)))) b 3 (some (u.1 + 2)))) b 4 (some (u.1 + 3)))) b 6 (some (u.1 + 4)))) b 8 (some (u.1 + 5)))) b 10 (some (u.1 + 6)))) b 12 (some (u.1 + 7)))) (u.1 + 8) kRt) b 13 (some (u.1 + 8)))) b 14 (some (u.1 + 9)))) b 16 (some (u.1 + 10))).2.2.2 b k = _
      rcases (show k = 0 ∨ k = 1 ∨ k = 2 ∨ k = 3 ∨ k = 4 ∨ k = 5 ∨ k = 6 ∨ k = 7 ∨ k = 8 ∨ k = 9 ∨ k = 10 ∨ k = 11 ∨ k = 12 ∨ k = 13 ∨ k = 14 ∨ k = 15 ∨ k = 16 ∨ k = 17 ∨ k = 18 by omega) with rfl | rfl | rfl | rfl | rfl | rfl | rfl | rfl | rfl | rfl | rfl | rfl | rfl | rfl | rfl | rfl | rfl | rfl | rfl
      · refine Eq.trans ?_ (show some (b + 1) = some c from hc)
        rw [kv_sr_n (by omega)]
        rw [kv_al_r (n := u.1 + 10) rfl (by omega)]
        rw [kv_sr_n (by omega)]
        rw [kv_al_r (n := u.1 + 9) rfl (by omega)]
        rw [kv_sr_n (by omega)]
        rw [kv_wr_r]
        rw [kv_al_r (n := u.1 + 8) rfl (by omega)]
        rw [kv_sr_n (by omega)]
        rw [kv_al_r (n := u.1 + 7) rfl (by omega)]
        rw [kv_sr_n (by omega)]
        rw [kv_al_r (n := u.1 + 6) rfl (by omega)]
        rw [kv_sr_n (by omega)]
        rw [kv_al_r (n := u.1 + 5) rfl (by omega)]
        rw [kv_sr_n (by omega)]
        rw [kv_al_r (n := u.1 + 4) rfl (by omega)]
        rw [kv_sr_n (by omega)]
        rw [kv_al_r (n := u.1 + 3) rfl (by omega)]
        rw [kv_sr_n (by omega)]
        rw [kv_al_r (n := u.1 + 2) rfl (by omega)]
        rw [kv_sr_n (by omega)]
        rw [kv_al_r (n := u.1 + 1) rfl (by omega)]
        rw [kv_sr_s]
        rw [show u.1 = b + 1 by omega]
      · exact absurd (show (none : Option Nat) = some c from hc) (by simp)
      · refine Eq.trans ?_ (show some (b + 2) = some c from hc)
        rw [kv_sr_n (by omega)]
        rw [kv_al_r (n := u.1 + 10) rfl (by omega)]
        rw [kv_sr_n (by omega)]
        rw [kv_al_r (n := u.1 + 9) rfl (by omega)]
        rw [kv_sr_n (by omega)]
        rw [kv_wr_r]
        rw [kv_al_r (n := u.1 + 8) rfl (by omega)]
        rw [kv_sr_n (by omega)]
        rw [kv_al_r (n := u.1 + 7) rfl (by omega)]
        rw [kv_sr_n (by omega)]
        rw [kv_al_r (n := u.1 + 6) rfl (by omega)]
        rw [kv_sr_n (by omega)]
        rw [kv_al_r (n := u.1 + 5) rfl (by omega)]
        rw [kv_sr_n (by omega)]
        rw [kv_al_r (n := u.1 + 4) rfl (by omega)]
        rw [kv_sr_n (by omega)]
        rw [kv_al_r (n := u.1 + 3) rfl (by omega)]
        rw [kv_sr_n (by omega)]
        rw [kv_al_r (n := u.1 + 2) rfl (by omega)]
        rw [kv_sr_s]
        rw [show u.1 + 1 = b + 2 by omega]
      · refine Eq.trans ?_ (show some (b + 3) = some c from hc)
        rw [kv_sr_n (by omega)]
        rw [kv_al_r (n := u.1 + 10) rfl (by omega)]
        rw [kv_sr_n (by omega)]
        rw [kv_al_r (n := u.1 + 9) rfl (by omega)]
        rw [kv_sr_n (by omega)]
        rw [kv_wr_r]
        rw [kv_al_r (n := u.1 + 8) rfl (by omega)]
        rw [kv_sr_n (by omega)]
        rw [kv_al_r (n := u.1 + 7) rfl (by omega)]
        rw [kv_sr_n (by omega)]
        rw [kv_al_r (n := u.1 + 6) rfl (by omega)]
        rw [kv_sr_n (by omega)]
        rw [kv_al_r (n := u.1 + 5) rfl (by omega)]
        rw [kv_sr_n (by omega)]
        rw [kv_al_r (n := u.1 + 4) rfl (by omega)]
        rw [kv_sr_n (by omega)]
        rw [kv_al_r (n := u.1 + 3) rfl (by omega)]
        rw [kv_sr_s]
        rw [show u.1 + 2 = b + 3 by omega]
      · refine Eq.trans ?_ (show some (b + 4) = some c from hc)
        rw [kv_sr_n (by omega)]
        rw [kv_al_r (n := u.1 + 10) rfl (by omega)]
        rw [kv_sr_n (by omega)]
        rw [kv_al_r (n := u.1 + 9) rfl (by omega)]
        rw [kv_sr_n (by omega)]
        rw [kv_wr_r]
        rw [kv_al_r (n := u.1 + 8) rfl (by omega)]
        rw [kv_sr_n (by omega)]
        rw [kv_al_r (n := u.1 + 7) rfl (by omega)]
        rw [kv_sr_n (by omega)]
        rw [kv_al_r (n := u.1 + 6) rfl (by omega)]
        rw [kv_sr_n (by omega)]
        rw [kv_al_r (n := u.1 + 5) rfl (by omega)]
        rw [kv_sr_n (by omega)]
        rw [kv_al_r (n := u.1 + 4) rfl (by omega)]
        rw [kv_sr_s]
        rw [show u.1 + 3 = b + 4 by omega]
      · exact absurd (show (none : Option Nat) = some c from hc) (by simp)
      · refine Eq.trans ?_ (show some (b + 5) = some c from hc)
        rw [kv_sr_n (by omega)]
        rw [kv_al_r (n := u.1 + 10) rfl (by omega)]
        rw [kv_sr_n (by omega)]
        rw [kv_al_r (n := u.1 + 9) rfl (by omega)]
        rw [kv_sr_n (by omega)]
        rw [kv_wr_r]
        rw [kv_al_r (n := u.1 + 8) rfl (by omega)]
        rw [kv_sr_n (by omega)]
        rw [kv_al_r (n := u.1 + 7) rfl (by omega)]
        rw [kv_sr_n (by omega)]
        rw [kv_al_r (n := u.1 + 6) rfl (by omega)]
        rw [kv_sr_n (by omega)]
        rw [kv_al_r (n := u.1 + 5) rfl (by omega)]
        rw [kv_sr_s]
        rw [show u.1 + 4 = b + 5 by omega]
      · exact absurd (show (none : Option Nat) = some c from hc) (by simp)
      · refine Eq.trans ?_ (show some (b + 6) = some c from hc)
        rw [kv_sr_n (by omega)]
        rw [kv_al_r (n := u.1 + 10) rfl (by omega)]
        rw [kv_sr_n (by omega)]
        rw [kv_al_r (n := u.1 + 9) rfl (by omega)]
        rw [kv_sr_n (by omega)]
        rw [kv_wr_r]
        rw [kv_al_r (n := u.1 + 8) rfl (by omega)]
        rw [kv_sr_n (by omega)]
        rw [kv_al_r (n := u.1 + 7) rfl (by omega)]
        rw [kv_sr_n (by omega)]
        rw [kv_al_r (n := u.1 + 6) rfl (by omega)]
        rw [kv_sr_s]
        rw [show u.1 + 5 = b + 6 by omega]
      · exact absurd (show (none : Option Nat) = some c from hc) (by simp)
      · refine Eq.trans ?_ (show some (b + 7) = some c from hc)
        rw [kv_sr_n (by omega)]
        rw [kv_al_r (n := u.1 + 10) rfl (by omega)]
        rw [kv_sr_n (by omega)]
        rw [kv_al_r (n := u.1 + 9) rfl (by omega)]
        rw [kv_sr_n (by omega)]
        rw [kv_wr_r]
        rw [kv_al_r (n := u.1 + 8) rfl (by omega)]
        rw [kv_sr_n (by omega)]
        rw [kv_al_r (n := u.1 + 7) rfl (by omega)]
        rw [kv_sr_s]
        rw [show u.1 + 6 = b + 7 by omega]
      · exact absurd (show (none : Option Nat) = some c from hc) (by simp)
      · refine Eq.trans ?_ (show some (b + 8) = some c from hc)
        rw [kv_sr_n (by omega)]
        rw [kv_al_r (n := u.1 + 10) rfl (by omega)]
        rw [kv_sr_n (by omega)]
        rw [kv_al_r (n := u.1 + 9) rfl (by omega)]
        rw [kv_sr_n (by omega)]
        rw [kv_wr_r]
        rw [kv_al_r (n := u.1 + 8) rfl (by omega)]
        rw [kv_sr_s]
        rw [show u.1 + 7 = b + 8 by omega]
      · refine Eq.trans ?_ (show some (b + 9) = some c from hc)
        rw [kv_sr_n (by omega)]
        rw [kv_al_r (n := u.1 + 10) rfl (by omega)]
        rw [kv_sr_n (by omega)]
        rw [kv_al_r (n := u.1 + 9) rfl (by omega)]
        rw [kv_sr_s]
        rw [show u.1 + 8 = b + 9 by omega]
      · refine Eq.trans ?_ (show some (b + 10) = some c from hc)
        rw [kv_sr_n (by omega)]
        rw [kv_al_r (n := u.1 + 10) rfl (by omega)]
        rw [kv_sr_s]
        rw [show u.1 + 9 = b + 10 by omega]
      · exact absurd (show (none : Option Nat) = some c from hc) (by simp)
      · refine Eq.trans ?_ (show some (b + 11) = some c from hc)
        rw [kv_sr_s]
        rw [show u.1 + 10 = b + 11 by omega]
      · exact absurd (show (none : Option Nat) = some c from hc) (by simp)
      · exact absurd (show (none : Option Nat) = some c from hc) (by simp)
    · obtain ⟨o, rfl⟩ : ∃ o, b = s + o := ⟨b - s, by omega⟩
      rw [kXr_n (by omega) (by omega)] at hc
      exact absurd hc (by simp)
set_option maxRecDepth 20000 in
set_option maxHeartbeats 4000000 in
theorem qX7_init {w : KW} {l : Launch} {u : KMem} {s : Nat} (hs : s = 1 ∨ s = 193) (hn : u.1 = s + 1) (z1 : ∀ k, u.2.1 s k = 0) (z2 : ∀ k, u.2.2.1 s k = 0) : KC w l mX7_init 2 191 1602 [.ref s] u (fun r v => r = none ∧ kSI s 30 20 10 40 u v) := by
  have h193 : s ≤ 193 := by omega
  have h0 : kv_sh s = (7, 19) := (kv_shs (o := 0) hs (by omega)).trans rfl
  have L_entry : ∀ v, kSI s 30 20 10 0 u v → KV w l mX7_init 2 (0 + 1 * (40 - 0)) (0 + 6 * (40 - 0)) 187 [some (.ref s), none] [] v (fun r v => r = none ∧ kSI s 30 20 10 40 u v) := by
    intro v0 hv0
    refine kv_iconst dX7_init_187 0 ki_0 ?_
    refine kv_istore_n (ls2 := [_, _]) dX7_init_188 rfl rfl rfl rfl ?_
    refine kn_loop (P := fun i => ∀ v, kSI s 30 20 10 i u v → KV w l mX7_init 2 (0 + 1 * (40 - i)) (0 + 6 * (40 - i)) 189 [some (.ref s), some (.int (nI i))] [] v (fun r v => r = none ∧ kSI s 30 20 10 40 u v)) 40 ?_ (fun i hi ih => ?_) v0 hv0
    · intro v hv
      refine kv_iload_n dX7_init_189 rfl ?_
      refine kv_bipush dX7_init_190 40 kb_40 ?_
      refine kv_icmp_ge dX7_init_192 214 (by decide) (fun _ => ?_) (fun h => absurd (Int32.le_refl _) h)
      exact kv_vret dX7_init_214 rfl ⟨rfl, hv⟩
    · intro v hv
      have hv1 : v.1 = s + (152 + i) := by have := hv.1; omega
      have g0 : kv_sh v.1 = (2, 6) := by rw [hv1, kv_shs hs (by omega)]; exact (kshS_entry i hi)
      have gr : kv_sh (s + 7) = (25, 40) := (kv_shs hs (by omega)).trans rfl
      refine kv_iload_n dX7_init_189 rfl ?_
      refine kv_bipush dX7_init_190 40 kb_40 ?_
      refine kv_icmp_ge dX7_init_192 214 (by decide) (fun h => absurd ((nI_leI (a := 40) (by omega) (by omega)).mp h) (by omega)) (fun _ => ?_)
      refine kv_aload_n dX7_init_195 rfl ?_
      refine kv_getR 19 dX7_init_196 fX7_41 (show s < v.1 by omega) h0 rfl rfl (hv.2.2.2.2 s (Nat.le_refl _) (by omega) 10 (s + 7) (kXr_s.trans rfl)) ?_
      refine kv_iload_n dX7_init_199 rfl ?_
      refine kv_new dX7_init_200 kC2 cX7_39 iX2.1 iX2.2 g0 (show v.1 < 433 by omega) (by decide) (by omega) (by omega) ?_
      refine kv_dup dX7_init_203 rfl ?_
      refine kv_callIN [] dX7_init_204 lX7_72 wX2_init (qX2_init (a := v.1) rfl g0  (by omega)) rfl rfl (by decide) (by omega) (by omega) (fun r v2 q => ?_)
      obtain ⟨rfl, rfl⟩ := q
      refine kv_aast (t := 3) (a := s + 7) (b := v.1) dX7_init_207 rfl (show s + 7 < v.1 + 1 by omega) gr rfl hi rfl (show v.1 < v.1 + 1 by omega) g0 (by decide) rfl ?_
      refine kv_iinc (ls2 := [_, _]) dX7_init_208 (nI (i + 1)) rfl (kv_inc1 i) rfl rfl rfl rfl ?_
      refine kv_goto dX7_init_211 189 (by decide) ?_
      exact KV.room (ih _ (hv.entry hi)) (by omega) (by omega)
  have L_treaty : ∀ v, kSI s 30 20 0 0 u v → KV w l mX7_init 2 (40 + 2 * (10 - 0)) (240 + 64 * (10 - 0)) 160 [some (.ref s), none] [] v (fun r v => r = none ∧ kSI s 30 20 10 40 u v) := by
    intro v0 hv0
    refine kv_iconst dX7_init_160 0 ki_0 ?_
    refine kv_istore_n (ls2 := [_, _]) dX7_init_161 rfl rfl rfl rfl ?_
    refine kn_loop (P := fun i => ∀ v, kSI s 30 20 i 0 u v → KV w l mX7_init 2 (40 + 2 * (10 - i)) (240 + 64 * (10 - i)) 162 [some (.ref s), some (.int (nI i))] [] v (fun r v => r = none ∧ kSI s 30 20 10 40 u v)) 10 ?_ (fun i hi ih => ?_) v0 hv0
    · intro v hv
      refine kv_iload_n dX7_init_162 rfl ?_
      refine kv_bipush dX7_init_163 10 kb_10 ?_
      refine kv_icmp_ge dX7_init_165 187 (by decide) (fun _ => ?_) (fun h => absurd (Int32.le_refl _) h)
      exact KV.room (KV.loc (L_entry v hv) (ksS rfl (ks0 ksN))) (by omega) (by omega)
    · intro v hv
      have hv1 : v.1 = s + (132 + 2 * i) := by have := hv.1; omega
      have g0 : kv_sh v.1 = (9, 4) := by rw [hv1, kv_shs hs (by omega)]; exact (kshS_treaty i hi).1
      have g1 : kv_sh (v.1 + 1) = (20, 60) := by rw [hv1, Nat.add_assoc, kv_shs hs (by omega)]; exact (kshS_treaty i hi).2
      have gr : kv_sh (s + 6) = (24, 10) := (kv_shs hs (by omega)).trans rfl
      refine kv_iload_n dX7_init_162 rfl ?_
      refine kv_bipush dX7_init_163 10 kb_10 ?_
      refine kv_icmp_ge dX7_init_165 187 (by decide) (fun h => absurd ((nI_leI (a := 10) (by omega) (by omega)).mp h) (by omega)) (fun _ => ?_)
      refine kv_aload_n dX7_init_168 rfl ?_
      refine kv_getR 19 dX7_init_169 fX7_35 (show s < v.1 by omega) h0 rfl rfl (hv.2.2.2.2 s (Nat.le_refl _) (by omega) 8 (s + 6) (kXr_s.trans rfl)) ?_
      refine kv_iload_n dX7_init_172 rfl ?_
      refine kv_new dX7_init_173 kC9 cX7_33 iX9.1 iX9.2 g0 (show v.1 < 433 by omega) (by decide) (by omega) (by omega) ?_
      refine kv_dup dX7_init_176 rfl ?_
      refine kv_callIN [] dX7_init_177 lX7_71 wX9_init (qX9_init (a := v.1) rfl g0 g1 (by omega)) rfl rfl (by decide) (by omega) (by omega) (fun r v2 q => ?_)
      obtain ⟨rfl, rfl⟩ := q
      refine kv_aast (t := 2) (a := s + 6) (b := v.1) dX7_init_180 rfl (show s + 6 < v.1 + 2 by omega) gr rfl hi rfl (show v.1 < v.1 + 2 by omega) g0 (by decide) rfl ?_
      refine kv_iinc (ls2 := [_, _]) dX7_init_181 (nI (i + 1)) rfl (kv_inc1 i) rfl rfl rfl rfl ?_
      refine kv_goto dX7_init_184 162 (by decide) ?_
      exact KV.room (ih _ (hv.treaty hi)) (by omega) (by omega)
  have L_crash : ∀ v, kSI s 30 0 0 0 u v → KV w l mX7_init 2 (60 + 3 * (20 - 0)) (880 + 9 * (20 - 0)) 133 [some (.ref s), none] [] v (fun r v => r = none ∧ kSI s 30 20 10 40 u v) := by
    intro v0 hv0
    refine kv_iconst dX7_init_133 0 ki_0 ?_
    refine kv_istore_n (ls2 := [_, _]) dX7_init_134 rfl rfl rfl rfl ?_
    refine kn_loop (P := fun i => ∀ v, kSI s 30 i 0 0 u v → KV w l mX7_init 2 (60 + 3 * (20 - i)) (880 + 9 * (20 - i)) 135 [some (.ref s), some (.int (nI i))] [] v (fun r v => r = none ∧ kSI s 30 20 10 40 u v)) 20 ?_ (fun i hi ih => ?_) v0 hv0
    · intro v hv
      refine kv_iload_n dX7_init_135 rfl ?_
      refine kv_bipush dX7_init_136 20 kb_20 ?_
      refine kv_icmp_ge dX7_init_138 160 (by decide) (fun _ => ?_) (fun h => absurd (Int32.le_refl _) h)
      exact KV.room (KV.loc (L_treaty v hv) (ksS rfl (ks0 ksN))) (by omega) (by omega)
    · intro v hv
      have hv1 : v.1 = s + (72 + 3 * i) := by have := hv.1; omega
      have g0 : kv_sh v.1 = (1, 5) := by rw [hv1, kv_shs hs (by omega)]; exact (kshS_crash i hi).1
      have g1 : kv_sh (v.1 + 1) = (20, 2) := by rw [hv1, Nat.add_assoc, kv_shs hs (by omega)]; exact (kshS_crash i hi).2.1
      have g2 : kv_sh (v.1 + 2) = (20, 2) := by rw [hv1, Nat.add_assoc, kv_shs hs (by omega)]; exact (kshS_crash i hi).2.2
      have gr : kv_sh (s + 5) = (23, 20) := (kv_shs hs (by omega)).trans rfl
      refine kv_iload_n dX7_init_135 rfl ?_
      refine kv_bipush dX7_init_136 20 kb_20 ?_
      refine kv_icmp_ge dX7_init_138 160 (by decide) (fun h => absurd ((nI_leI (a := 20) (by omega) (by omega)).mp h) (by omega)) (fun _ => ?_)
      refine kv_aload_n dX7_init_141 rfl ?_
      refine kv_getR 19 dX7_init_142 fX7_29 (show s < v.1 by omega) h0 rfl rfl (hv.2.2.2.2 s (Nat.le_refl _) (by omega) 6 (s + 5) (kXr_s.trans rfl)) ?_
      refine kv_iload_n dX7_init_145 rfl ?_
      refine kv_new dX7_init_146 kC1 cX7_27 iX1.1 iX1.2 g0 (show v.1 < 433 by omega) (by decide) (by omega) (by omega) ?_
      refine kv_dup dX7_init_149 rfl ?_
      refine kv_callIN [] dX7_init_150 lX7_70 wX1_init (qX1_init (a := v.1) rfl g0 g1 g2 (by omega)) rfl rfl (by decide) (by omega) (by omega) (fun r v2 q => ?_)
      obtain ⟨rfl, rfl⟩ := q
      refine kv_aast (t := 1) (a := s + 5) (b := v.1) dX7_init_153 rfl (show s + 5 < v.1 + 3 by omega) gr rfl hi rfl (show v.1 < v.1 + 3 by omega) g0 (by decide) rfl ?_
      refine kv_iinc (ls2 := [_, _]) dX7_init_154 (nI (i + 1)) rfl (kv_inc1 i) rfl rfl rfl rfl ?_
      refine kv_goto dX7_init_157 135 (by decide) ?_
      exact KV.room (ih _ (hv.crash hi)) (by omega) (by omega)
  have L_car : ∀ v, kSI s 0 0 0 0 u v → KV w l mX7_init 2 (120 + 2 * (30 - 0)) (1060 + 9 * (30 - 0)) 106 [some (.ref s), none] [] v (fun r v => r = none ∧ kSI s 30 20 10 40 u v) := by
    intro v0 hv0
    refine kv_iconst dX7_init_106 0 ki_0 ?_
    refine kv_istore_n (ls2 := [_, _]) dX7_init_107 rfl rfl rfl rfl ?_
    refine kn_loop (P := fun i => ∀ v, kSI s i 0 0 0 u v → KV w l mX7_init 2 (120 + 2 * (30 - i)) (1060 + 9 * (30 - i)) 108 [some (.ref s), some (.int (nI i))] [] v (fun r v => r = none ∧ kSI s 30 20 10 40 u v)) 30 ?_ (fun i hi ih => ?_) v0 hv0
    · intro v hv
      refine kv_iload_n dX7_init_108 rfl ?_
      refine kv_bipush dX7_init_109 30 kb_30 ?_
      refine kv_icmp_ge dX7_init_111 133 (by decide) (fun _ => ?_) (fun h => absurd (Int32.le_refl _) h)
      exact KV.room (KV.loc (L_crash v hv) (ksS rfl (ks0 ksN))) (by omega) (by omega)
    · intro v hv
      have hv1 : v.1 = s + (12 + 2 * i) := by have := hv.1; omega
      have g0 : kv_sh v.1 = (0, 6) := by rw [hv1, kv_shs hs (by omega)]; exact (kshS_car i hi).1
      have g1 : kv_sh (v.1 + 1) = (20, 3) := by rw [hv1, Nat.add_assoc, kv_shs hs (by omega)]; exact (kshS_car i hi).2
      have gr : kv_sh (s + 1) = (22, 30) := (kv_shs hs (by omega)).trans rfl
      refine kv_iload_n dX7_init_108 rfl ?_
      refine kv_bipush dX7_init_109 30 kb_30 ?_
      refine kv_icmp_ge dX7_init_111 133 (by decide) (fun h => absurd ((nI_leI (a := 30) (by omega) (by omega)).mp h) (by omega)) (fun _ => ?_)
      refine kv_aload_n dX7_init_114 rfl ?_
      refine kv_getR 19 dX7_init_115 fX7_11 (show s < v.1 by omega) h0 rfl rfl (hv.2.2.2.2 s (Nat.le_refl _) (by omega) 0 (s + 1) (kXr_s.trans rfl)) ?_
      refine kv_iload_n dX7_init_118 rfl ?_
      refine kv_new dX7_init_119 kC0 cX7_9 iX0.1 iX0.2 g0 (show v.1 < 433 by omega) (by decide) (by omega) (by omega) ?_
      refine kv_dup dX7_init_122 rfl ?_
      refine kv_callIN [] dX7_init_123 lX7_69 wX0_init (qX0_init (a := v.1) rfl g0 g1 (by omega)) rfl rfl (by decide) (by omega) (by omega) (fun r v2 q => ?_)
      obtain ⟨rfl, rfl⟩ := q
      refine kv_aast (t := 0) (a := s + 1) (b := v.1) dX7_init_126 rfl (show s + 1 < v.1 + 2 by omega) gr rfl hi rfl (show v.1 < v.1 + 2 by omega) g0 (by decide) rfl ?_
      refine kv_iinc (ls2 := [_, _]) dX7_init_127 (nI (i + 1)) rfl (kv_inc1 i) rfl rfl rfl rfl ?_
      refine kv_goto dX7_init_130 108 (by decide) ?_
      exact KV.room (ih _ (hv.car hi)) (by omega) (by omega)
  refine KC.of (ls := [_, _]) rfl rfl (Nat.le_of_ble_eq_true rfl) ?_
  refine kv_aload_n dX7_init_0 rfl ?_
  refine kv_objI dX7_init_1 lX7_3 w_obj rfl (by omega) ?_
  refine kv_aload_n dX7_init_4 rfl ?_
  refine kv_bipush dX7_init_5 30 kb_30 ?_
  refine kv_newA (t := 0) dX7_init_7 rfl cX7_9 (by decide +kernel) (show kv_sh u.1 = (22, 30) from (by rw [hn, kv_shs hs (by omega)]; rfl)) (show u.1 < 433 by omega) (show (30 : Int32) = nI 30 from rfl) rfl (by decide) (by decide) ?_
  refine kv_putR 19 dX7_init_10 fX7_11 (fun _ => ⟨rfl, rfl⟩) (show s < u.1 + 1 by omega) h0 rfl rfl (fun _ => rfl) (fun _ => rfl) ?_
  refine kv_aload_n dX7_init_13 rfl ?_
  refine kv_bipush dX7_init_14 16 kb_16 ?_
  refine kv_newI dX7_init_16 w_row_int (show kv_sh (u.1 + 1) = (20, 16) from (by rw [hn, show s + 1 + 1 = s + 2 by omega, kv_shs hs (by omega)]; rfl)) (show u.1 + 1 < 433 by omega) (show (16 : Int32) = nI 16 from rfl) rfl (by decide) (by decide) ?_
  refine kv_putR 19 dX7_init_18 fX7_17 (fun _ => ⟨rfl, rfl⟩) (show s < u.1 + 2 by omega) h0 rfl rfl (fun _ => rfl) (fun _ => rfl) ?_
  refine kv_aload_n dX7_init_21 rfl ?_
  refine kv_bipush dX7_init_22 16 kb_16 ?_
  refine kv_newI dX7_init_24 w_row_int (show kv_sh (u.1 + 2) = (20, 16) from (by rw [hn, show s + 1 + 2 = s + 3 by omega, kv_shs hs (by omega)]; rfl)) (show u.1 + 2 < 433 by omega) (show (16 : Int32) = nI 16 from rfl) rfl (by decide) (by decide) ?_
  refine kv_putR 19 dX7_init_26 fX7_21 (fun _ => ⟨rfl, rfl⟩) (show s < u.1 + 3 by omega) h0 rfl rfl (fun _ => rfl) (fun _ => rfl) ?_
  refine kv_aload_n dX7_init_29 rfl ?_
  refine kv_bipush dX7_init_30 16 kb_16 ?_
  refine kv_newI dX7_init_32 w_row_int (show kv_sh (u.1 + 3) = (20, 16) from (by rw [hn, show s + 1 + 3 = s + 4 by omega, kv_shs hs (by omega)]; rfl)) (show u.1 + 3 < 433 by omega) (show (16 : Int32) = nI 16 from rfl) rfl (by decide) (by decide) ?_
  refine kv_putR 19 dX7_init_34 fX7_24 (fun _ => ⟨rfl, rfl⟩) (show s < u.1 + 4 by omega) h0 rfl rfl (fun _ => rfl) (fun _ => rfl) ?_
  refine kv_aload_n dX7_init_37 rfl ?_
  refine kv_bipush dX7_init_38 20 kb_20 ?_
  refine kv_newA (t := 1) dX7_init_40 rfl cX7_27 (by decide +kernel) (show kv_sh (u.1 + 4) = (23, 20) from (by rw [hn, show s + 1 + 4 = s + 5 by omega, kv_shs hs (by omega)]; rfl)) (show u.1 + 4 < 433 by omega) (show (20 : Int32) = nI 20 from rfl) rfl (by decide) (by decide) ?_
  refine kv_putR 19 dX7_init_43 fX7_29 (fun _ => ⟨rfl, rfl⟩) (show s < u.1 + 5 by omega) h0 rfl rfl (fun _ => rfl) (fun _ => rfl) ?_
  refine kv_aload_n dX7_init_46 rfl ?_
  refine kv_bipush dX7_init_47 10 kb_10 ?_
  refine kv_newA (t := 2) dX7_init_49 rfl cX7_33 (by decide +kernel) (show kv_sh (u.1 + 5) = (24, 10) from (by rw [hn, show s + 1 + 5 = s + 6 by omega, kv_shs hs (by omega)]; rfl)) (show u.1 + 5 < 433 by omega) (show (10 : Int32) = nI 10 from rfl) rfl (by decide) (by decide) ?_
  refine kv_putR 19 dX7_init_52 fX7_35 (fun _ => ⟨rfl, rfl⟩) (show s < u.1 + 6 by omega) h0 rfl rfl (fun _ => rfl) (fun _ => rfl) ?_
  refine kv_aload_n dX7_init_55 rfl ?_
  refine kv_bipush dX7_init_56 40 kb_40 ?_
  refine kv_newA (t := 3) dX7_init_58 rfl cX7_39 (by decide +kernel) (show kv_sh (u.1 + 6) = (25, 40) from (by rw [hn, show s + 1 + 6 = s + 7 by omega, kv_shs hs (by omega)]; rfl)) (show u.1 + 6 < 433 by omega) (show (40 : Int32) = nI 40 from rfl) rfl (by decide) (by decide) ?_
  refine kv_putR 19 dX7_init_61 fX7_41 (fun _ => ⟨rfl, rfl⟩) (show s < u.1 + 7 by omega) h0 rfl rfl (fun _ => rfl) (fun _ => rfl) ?_
  refine kv_aload_n dX7_init_64 rfl ?_
  refine kv_bipush dX7_init_65 24 kb_24 ?_
  refine kv_newI dX7_init_67 w_row_int (show kv_sh (u.1 + 7) = (20, 24) from (by rw [hn, show s + 1 + 7 = s + 8 by omega, kv_shs hs (by omega)]; rfl)) (show u.1 + 7 < 433 by omega) (show (24 : Int32) = nI 24 from rfl) rfl (by decide) (by decide) ?_
  refine kv_putR 19 dX7_init_69 fX7_45 (fun _ => ⟨rfl, rfl⟩) (show s < u.1 + 8 by omega) h0 rfl rfl (fun _ => rfl) (fun _ => rfl) ?_
  refine kv_aload_n dX7_init_72 rfl ?_
  refine kv_getsN 0 dX7_init_73 rfl rfl (by decide +kernel) ?_
  refine kv_clone dX7_init_76 rfl (show kv_sh (u.1 + 8) = (20, 7) from (by rw [hn, show s + 1 + 8 = s + 9 by omega, kv_shs hs (by omega)]; rfl)) (show u.1 + 8 < 433 by omega) rfl (by omega) (by decide) (by decide) ?_
  refine kv_castI dX7_init_79 cX7_52 (show u.1 + 8 < u.1 + 9 by omega) (show kv_sh (u.1 + 8) = (20, 7) from (by rw [hn, show s + 1 + 8 = s + 9 by omega, kv_shs hs (by omega)]; rfl)) ?_
  refine kv_putR 19 dX7_init_82 fX7_56 (fun _ => ⟨rfl, rfl⟩) (show s < u.1 + 9 by omega) h0 rfl rfl (fun _ => rfl) (fun _ => rfl) ?_
  refine kv_aload_n dX7_init_85 rfl ?_
  refine kv_bipush dX7_init_86 60 kb_60 ?_
  refine kv_newI dX7_init_88 w_row_int (show kv_sh (u.1 + 9) = (20, 60) from (by rw [hn, show s + 1 + 9 = s + 10 by omega, kv_shs hs (by omega)]; rfl)) (show u.1 + 9 < 433 by omega) (show (60 : Int32) = nI 60 from rfl) rfl (by decide) (by decide) ?_
  refine kv_putR 19 dX7_init_90 fX7_59 (fun _ => ⟨rfl, rfl⟩) (show s < u.1 + 10 by omega) h0 rfl rfl (fun _ => rfl) (fun _ => rfl) ?_
  refine kv_aload_n dX7_init_93 rfl ?_
  refine kv_bipush dX7_init_94 33 kb_33 ?_
  refine kv_newI dX7_init_96 w_row_int (show kv_sh (u.1 + 10) = (20, 33) from (by rw [hn, show s + 1 + 10 = s + 11 by omega, kv_shs hs (by omega)]; rfl)) (show u.1 + 10 < 433 by omega) (show (33 : Int32) = nI 33 from rfl) rfl (by decide) (by decide) ?_
  refine kv_putR 19 dX7_init_98 fX7_62 (fun _ => ⟨rfl, rfl⟩) (show s < u.1 + 11 by omega) h0 rfl rfl (fun _ => rfl) (fun _ => rfl) ?_
  refine kv_aload_n dX7_init_101 rfl ?_
  refine kv_iconst dX7_init_102 1 ki_1 ?_
  refine kv_putI 19 dX7_init_103 fX7_65 (show s < u.1 + 11 by omega) h0 rfl rfl ?_
  exact KV.room (KV.loc (L_car _ (kSI_0 hn z1 z2)) (ksS rfl (ks0 ksN))) (by decide) (by decide)
