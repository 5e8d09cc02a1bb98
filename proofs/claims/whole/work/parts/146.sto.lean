/-! THE STORE -/
theorem KV.room {w : KW} {l : Launch} {mm : KM} {dd nc ns nc2 ns2 pc : Nat} {ls : List (Option Value)} {st : List Value} {u : KMem} {Q : Option Value → KMem → Prop} (h : KV w l mm dd nc ns pc ls st u Q) (h1 : nc ≤ nc2) (h2 : ns ≤ ns2) : KV w l mm dd nc2 ns2 pc ls st u Q :=
  fun p e R s m args below meth c H locs cells slots mc ms arr F S M L c1 c2 => h p e R s m args below meth c H locs cells slots mc ms arr F S M L (by omega) (by omega)
def kIS (s b k : Nat) : Int32 := if b = s then (if k = 18 then 1 else 0) else if b = s + 9 then kRt k else 0
def kXr (s i j t e b k : Nat) : Option Nat := if b = s + 1 then (if k < i then some (s + (12 + 2 * k)) else none) else if b = s + 5 then (if k < j then some (s + (72 + 3 * k)) else none) else if b = s + 6 then (if k < t then some (s + (132 + 2 * k)) else none) else if b = s + 7 then (if k < e then some (s + (152 + k)) else none) else kv_rfS (b - s) s k
def kSI (s i j t e : Nat) (u v : KMem) : Prop := v.1 = s + 12 + 2 * i + 3 * j + 2 * t + e ∧ (∀ b, b < s → ∀ k, v.2.1 b k = u.2.1 b k ∧ v.2.2.1 b k = u.2.2.1 b k ∧ v.2.2.2 b k = u.2.2.2 b k) ∧ (∀ b, s ≤ b → b < v.1 → ∀ k, v.2.1 b k = kIS s b k) ∧ (∀ b, s ≤ b → b < v.1 → ∀ k, v.2.2.1 b k = 0) ∧ ∀ b, s ≤ b → b < v.1 → ∀ k c, kXr s i j t e b k = some c → v.2.2.2 b k = some c
theorem kv_shs {s o : Nat} (hs : s = 1 ∨ s = 193) (ho : o < 192) : kv_sh (s + o) = kv_shS o := by
  unfold kv_sh
  rcases hs with rfl | rfl
  · rw [if_neg (by omega), if_pos (by omega), show 1 + o - 1 = o by omega]
  · rw [if_neg (by omega), if_neg (by omega), if_pos (by omega), show 193 + o - 193 = o by omega]
theorem kshS_car : ∀ i, i < 30 → kv_shS (12 + 2 * i) = (0, 6) ∧ kv_shS (12 + 2 * i + 1) = (20, 3) := by decide +kernel
theorem kshS_crash : ∀ i, i < 20 → kv_shS (72 + 3 * i) = (1, 5) ∧ kv_shS (72 + 3 * i + 1) = (20, 2) ∧ kv_shS (72 + 3 * i + 2) = (20, 2) := by decide +kernel
theorem kshS_treaty : ∀ i, i < 10 → kv_shS (132 + 2 * i) = (9, 4) ∧ kv_shS (132 + 2 * i + 1) = (20, 60) := by decide +kernel
theorem kshS_entry : ∀ i, i < 40 → kv_shS (152 + i) = (2, 6) := by decide +kernel
theorem kr_car {i s k : Nat} (hi : i < 30) : kv_rfS (12 + 2 * i) s k = (if k = 5 then some (s + (12 + 2 * i + 1)) else none) ∧ kv_rfS (12 + 2 * i + 1) s k = none := by
  unfold kv_rfS
  exact ⟨by rw [if_neg (by omega), if_neg (by omega), if_neg (by omega), if_neg (by omega), if_neg (by omega), if_neg (by omega), if_pos (by omega), if_pos (by omega)], by rw [if_neg (by omega), if_neg (by omega), if_neg (by omega), if_neg (by omega), if_neg (by omega), if_neg (by omega), if_pos (by omega), if_neg (by omega)]⟩
theorem kr_crash {i s k : Nat} (hi : i < 20) : kv_rfS (72 + 3 * i) s k = (if k = 0 then some (s + (72 + 3 * i + 1)) else if k = 1 then some (s + (72 + 3 * i + 2)) else none) ∧ kv_rfS (72 + 3 * i + 1) s k = none ∧ kv_rfS (72 + 3 * i + 2) s k = none := by
  unfold kv_rfS
  exact ⟨by rw [if_neg (by omega), if_neg (by omega), if_neg (by omega), if_neg (by omega), if_neg (by omega), if_neg (by omega), if_neg (by omega), if_pos (by omega), if_pos (by omega)], by rw [if_neg (by omega), if_neg (by omega), if_neg (by omega), if_neg (by omega), if_neg (by omega), if_neg (by omega), if_neg (by omega), if_pos (by omega), if_neg (by omega)], by rw [if_neg (by omega), if_neg (by omega), if_neg (by omega), if_neg (by omega), if_neg (by omega), if_neg (by omega), if_neg (by omega), if_pos (by omega), if_neg (by omega)]⟩
theorem kr_treaty {i s k : Nat} (hi : i < 10) : kv_rfS (132 + 2 * i) s k = (if k = 0 then some (s + (132 + 2 * i + 1)) else none) ∧ kv_rfS (132 + 2 * i + 1) s k = none := by
  unfold kv_rfS
  exact ⟨by rw [if_neg (by omega), if_neg (by omega), if_neg (by omega), if_neg (by omega), if_neg (by omega), if_neg (by omega), if_neg (by omega), if_neg (by omega), if_pos (by omega), if_pos (by omega)], by rw [if_neg (by omega), if_neg (by omega), if_neg (by omega), if_neg (by omega), if_neg (by omega), if_neg (by omega), if_neg (by omega), if_neg (by omega), if_pos (by omega), if_neg (by omega)]⟩
theorem kr_entry {i s k : Nat} (hi : i < 40) : kv_rfS (152 + i) s k = none := by
  unfold kv_rfS
  rw [if_neg (by omega), if_neg (by omega), if_neg (by omega), if_neg (by omega), if_neg (by omega), if_neg (by omega), if_neg (by omega), if_neg (by omega), if_neg (by omega)]
theorem kSI.car {s i : Nat} {u v : KMem} (h : kSI s i 0 0 0 u v) (hi : i < 30) : kSI s (i + 1) 0 0 0 u (kv_sr (kv_sr (kv_al (kv_al v)) v.1 5 (some (v.1 + 1))) (s + 1) i (some v.1)) := by
  obtain ⟨n, hb, hI, hJ, hR⟩ := h
  have hv : v.1 = s + (12 + 2 * i) := by omega
  have rI : ∀ b k, (kv_sr (kv_sr (kv_al (kv_al v)) v.1 5 (some (v.1 + 1))) (s + 1) i (some v.1)).2.1 b k = if b = v.1 + 1 then 0 else (if b = v.1 then 0 else (v.2.1 b k)) := fun b k => rfl
  have rJ : ∀ b k, (kv_sr (kv_sr (kv_al (kv_al v)) v.1 5 (some (v.1 + 1))) (s + 1) i (some v.1)).2.2.1 b k = if b = v.1 + 1 then 0 else (if b = v.1 then 0 else (v.2.2.1 b k)) := fun b k => rfl
  have rR : ∀ b k, (kv_sr (kv_sr (kv_al (kv_al v)) v.1 5 (some (v.1 + 1))) (s + 1) i (some v.1)).2.2.2 b k = if b = s + 1 then (if k = i then some v.1 else (if b = v.1 then (if k = 5 then some (v.1 + 1) else (if b = v.1 + 1 then none else (if b = v.1 then none else (v.2.2.2 b k)))) else (if b = v.1 + 1 then none else (if b = v.1 then none else (v.2.2.2 b k))))) else (if b = v.1 then (if k = 5 then some (v.1 + 1) else (if b = v.1 + 1 then none else (if b = v.1 then none else (v.2.2.2 b k)))) else (if b = v.1 + 1 then none else (if b = v.1 then none else (v.2.2.2 b k)))) := fun b k => rfl
  have hsz : (kv_sr (kv_sr (kv_al (kv_al v)) v.1 5 (some (v.1 + 1))) (s + 1) i (some v.1)).1 = v.1 + 2 := rfl
  have oI : ∀ b k, b < v.1 → (kv_sr (kv_sr (kv_al (kv_al v)) v.1 5 (some (v.1 + 1))) (s + 1) i (some v.1)).2.1 b k = v.2.1 b k := fun b k q => by rw [rI, if_neg (by omega), if_neg (by omega)]
  have oJ : ∀ b k, b < v.1 → (kv_sr (kv_sr (kv_al (kv_al v)) v.1 5 (some (v.1 + 1))) (s + 1) i (some v.1)).2.2.1 b k = v.2.2.1 b k := fun b k q => by rw [rJ, if_neg (by omega), if_neg (by omega)]
  have oR : ∀ b k, b < v.1 → ¬ b = s + 1 → (kv_sr (kv_sr (kv_al (kv_al v)) v.1 5 (some (v.1 + 1))) (s + 1) i (some v.1)).2.2.2 b k = v.2.2.2 b k := fun b k q q2 => by rw [rR, if_neg q2, if_neg (by omega), if_neg (by omega), if_neg (by omega)]
  refine ⟨by rw [hsz]; omega, fun b q k => ⟨(oI b k (by omega)).trans (hb b q k).1, (oJ b k (by omega)).trans (hb b q k).2.1, (oR b k (by omega) (by omega)).trans (hb b q k).2.2⟩, fun b q1 q2 k => ?_, fun b q1 q2 k => ?_, fun b q1 q2 k c hc => ?_⟩
  · rw [hsz] at q2
    by_cases z : b < v.1
    · exact (oI b k z).trans (hI b q1 z k)
    · have e : kIS s b k = 0 := by unfold kIS; rw [if_neg (by omega), if_neg (by omega)]
      rw [e, rI]
      rcases (show b = v.1 ∨ b = v.1 + 1 by omega) with rfl | rfl
      · rw [if_neg (by omega), if_pos rfl]
      · rw [if_pos rfl]
  · rw [hsz] at q2
    by_cases z : b < v.1
    · exact (oJ b k z).trans (hJ b q1 z k)
    · rw [rJ]
      rcases (show b = v.1 ∨ b = v.1 + 1 by omega) with rfl | rfl
      · rw [if_neg (by omega), if_pos rfl]
      · rw [if_pos rfl]
  · rw [hsz] at q2
    by_cases z0 : b = s + 1
    · subst z0
      rw [rR, if_pos rfl]
      unfold kXr at hc
      rw [if_pos rfl] at hc
      by_cases zk : k = i
      · subst zk
        rw [if_pos (by omega)] at hc
        rw [if_pos rfl, hv]
        exact hc
      · rw [if_neg zk, if_neg (by omega), if_neg (by omega), if_neg (by omega)]
        refine hR _ q1 (by omega) k c ?_
        unfold kXr
        rw [if_pos rfl]
        by_cases zl : k < i
        · rw [if_pos (by omega)] at hc; rw [if_pos zl]; exact hc
        · rw [if_neg (by omega)] at hc; exact absurd hc (by simp)
    · by_cases z : b < v.1
      · rw [oR b k z z0]
        refine hR b q1 z k c ?_
        rw [← hc]
        unfold kXr
        by_cases y1 : b = s + 1
        · exact absurd y1 z0
        · rw [if_neg y1, if_neg y1]
      · unfold kXr at hc
        rw [if_neg (by omega), if_neg (by omega), if_neg (by omega), if_neg (by omega)] at hc
        rw [rR, if_neg z0]
        rcases (show b = v.1 ∨ b = v.1 + 1 by omega) with rfl | rfl
        · rw [show v.1 - s = 12 + 2 * i by omega, (kr_car hi).1] at hc
          by_cases zk : k = 5
          · rw [if_pos zk] at hc; rw [if_pos rfl, if_pos zk, hv]; exact hc
          · rw [if_neg zk] at hc; exact absurd hc (by simp)
        · rw [show v.1 + 1 - s = 12 + 2 * i + 1 by omega, (kr_car hi).2] at hc
          exact absurd hc (by simp)
theorem kSI.crash {s i : Nat} {u v : KMem} (h : kSI s 30 i 0 0 u v) (hi : i < 20) : kSI s 30 (i + 1) 0 0 u (kv_sr (kv_sr (kv_al (kv_sr (kv_al (kv_al v)) v.1 0 (some (v.1 + 1)))) v.1 1 (some (v.1 + 2))) (s + 5) i (some v.1)) := by
  obtain ⟨n, hb, hI, hJ, hR⟩ := h
  have hv : v.1 = s + (72 + 3 * i) := by omega
  have rI : ∀ b k, (kv_sr (kv_sr (kv_al (kv_sr (kv_al (kv_al v)) v.1 0 (some (v.1 + 1)))) v.1 1 (some (v.1 + 2))) (s + 5) i (some v.1)).2.1 b k = if b = v.1 + 2 then 0 else (if b = v.1 + 1 then 0 else (if b = v.1 then 0 else (v.2.1 b k))) := fun b k => rfl
  have rJ : ∀ b k, (kv_sr (kv_sr (kv_al (kv_sr (kv_al (kv_al v)) v.1 0 (some (v.1 + 1)))) v.1 1 (some (v.1 + 2))) (s + 5) i (some v.1)).2.2.1 b k = if b = v.1 + 2 then 0 else (if b = v.1 + 1 then 0 else (if b = v.1 then 0 else (v.2.2.1 b k))) := fun b k => rfl
  have rR : ∀ b k, (kv_sr (kv_sr (kv_al (kv_sr (kv_al (kv_al v)) v.1 0 (some (v.1 + 1)))) v.1 1 (some (v.1 + 2))) (s + 5) i (some v.1)).2.2.2 b k = if b = s + 5 then (if k = i then some v.1 else (if b = v.1 then (if k = 1 then some (v.1 + 2) else (if b = v.1 + 2 then none else (if b = v.1 then (if k = 0 then some (v.1 + 1) else (if b = v.1 + 1 then none else (if b = v.1 then none else (v.2.2.2 b k)))) else (if b = v.1 + 1 then none else (if b = v.1 then none else (v.2.2.2 b k)))))) else (if b = v.1 + 2 then none else (if b = v.1 then (if k = 0 then some (v.1 + 1) else (if b = v.1 + 1 then none else (if b = v.1 then none else (v.2.2.2 b k)))) else (if b = v.1 + 1 then none else (if b = v.1 then none else (v.2.2.2 b k))))))) else (if b = v.1 then (if k = 1 then some (v.1 + 2) else (if b = v.1 + 2 then none else (if b = v.1 then (if k = 0 then some (v.1 + 1) else (if b = v.1 + 1 then none else (if b = v.1 then none else (v.2.2.2 b k)))) else (if b = v.1 + 1 then none else (if b = v.1 then none else (v.2.2.2 b k)))))) else (if b = v.1 + 2 then none else (if b = v.1 then (if k = 0 then some (v.1 + 1) else (if b = v.1 + 1 then none else (if b = v.1 then none else (v.2.2.2 b k)))) else (if b = v.1 + 1 then none else (if b = v.1 then none else (v.2.2.2 b k)))))) := fun b k => rfl
  have hsz : (kv_sr (kv_sr (kv_al (kv_sr (kv_al (kv_al v)) v.1 0 (some (v.1 + 1)))) v.1 1 (some (v.1 + 2))) (s + 5) i (some v.1)).1 = v.1 + 3 := rfl
  have oI : ∀ b k, b < v.1 → (kv_sr (kv_sr (kv_al (kv_sr (kv_al (kv_al v)) v.1 0 (some (v.1 + 1)))) v.1 1 (some (v.1 + 2))) (s + 5) i (some v.1)).2.1 b k = v.2.1 b k := fun b k q => by rw [rI, if_neg (by omega), if_neg (by omega), if_neg (by omega)]
  have oJ : ∀ b k, b < v.1 → (kv_sr (kv_sr (kv_al (kv_sr (kv_al (kv_al v)) v.1 0 (some (v.1 + 1)))) v.1 1 (some (v.1 + 2))) (s + 5) i (some v.1)).2.2.1 b k = v.2.2.1 b k := fun b k q => by rw [rJ, if_neg (by omega), if_neg (by omega), if_neg (by omega)]
  have oR : ∀ b k, b < v.1 → ¬ b = s + 5 → (kv_sr (kv_sr (kv_al (kv_sr (kv_al (kv_al v)) v.1 0 (some (v.1 + 1)))) v.1 1 (some (v.1 + 2))) (s + 5) i (some v.1)).2.2.2 b k = v.2.2.2 b k := fun b k q q2 => by rw [rR, if_neg q2, if_neg (by omega), if_neg (by omega), if_neg (by omega), if_neg (by omega), if_neg (by omega)]
  refine ⟨by rw [hsz]; omega, fun b q k => ⟨(oI b k (by omega)).trans (hb b q k).1, (oJ b k (by omega)).trans (hb b q k).2.1, (oR b k (by omega) (by omega)).trans (hb b q k).2.2⟩, fun b q1 q2 k => ?_, fun b q1 q2 k => ?_, fun b q1 q2 k c hc => ?_⟩
  · rw [hsz] at q2
    by_cases z : b < v.1
    · exact (oI b k z).trans (hI b q1 z k)
    · have e : kIS s b k = 0 := by unfold kIS; rw [if_neg (by omega), if_neg (by omega)]
      rw [e, rI]
      rcases (show b = v.1 ∨ b = v.1 + 1 ∨ b = v.1 + 2 by omega) with rfl | rfl | rfl
      · rw [if_neg (by omega), if_neg (by omega), if_pos rfl]
      · rw [if_neg (by omega), if_pos rfl]
      · rw [if_pos rfl]
  · rw [hsz] at q2
    by_cases z : b < v.1
    · exact (oJ b k z).trans (hJ b q1 z k)
    · rw [rJ]
      rcases (show b = v.1 ∨ b = v.1 + 1 ∨ b = v.1 + 2 by omega) with rfl | rfl | rfl
      · rw [if_neg (by omega), if_neg (by omega), if_pos rfl]
      · rw [if_neg (by omega), if_pos rfl]
      · rw [if_pos rfl]
  · rw [hsz] at q2
    by_cases z0 : b = s + 5
    · subst z0
      rw [rR, if_pos rfl]
      unfold kXr at hc
      rw [if_neg (by omega), if_pos rfl] at hc
      by_cases zk : k = i
      · subst zk
        rw [if_pos (by omega)] at hc
        rw [if_pos rfl, hv]
        exact hc
      · rw [if_neg zk, if_neg (by omega), if_neg (by omega), if_neg (by omega), if_neg (by omega), if_neg (by omega)]
        refine hR _ q1 (by omega) k c ?_
        unfold kXr
        rw [if_neg (by omega), if_pos rfl]
        by_cases zl : k < i
        · rw [if_pos (by omega)] at hc; rw [if_pos zl]; exact hc
        · rw [if_neg (by omega)] at hc; exact absurd hc (by simp)
    · by_cases z : b < v.1
      · rw [oR b k z z0]
        refine hR b q1 z k c ?_
        rw [← hc]
        unfold kXr
        by_cases y1 : b = s + 1
        · rw [if_pos y1, if_pos y1]
        · rw [if_neg y1, if_neg y1]
          by_cases y5 : b = s + 5
          · exact absurd y5 z0
          · rw [if_neg y5, if_neg y5]
      · unfold kXr at hc
        rw [if_neg (by omega), if_neg (by omega), if_neg (by omega), if_neg (by omega)] at hc
        rw [rR, if_neg z0]
        rcases (show b = v.1 ∨ b = v.1 + 1 ∨ b = v.1 + 2 by omega) with rfl | rfl | rfl
        · rw [show v.1 - s = 72 + 3 * i by omega, (kr_crash hi).1] at hc
          by_cases zk : k = 0
          · rw [if_pos zk] at hc; rw [if_pos rfl, if_neg (by omega), if_neg (by omega), if_pos rfl, if_pos zk, hv]; exact hc
          · rw [if_neg zk] at hc
            by_cases zl : k = 1
            · rw [if_pos zl] at hc; rw [if_pos rfl, if_pos zl, hv]; exact hc
            · rw [if_neg zl] at hc; exact absurd hc (by simp)
        · rw [show v.1 + 1 - s = 72 + 3 * i + 1 by omega, (kr_crash hi).2.1] at hc
          exact absurd hc (by simp)
        · rw [show v.1 + 2 - s = 72 + 3 * i + 2 by omega, (kr_crash hi).2.2] at hc
          exact absurd hc (by simp)
theorem kSI.treaty {s i : Nat} {u v : KMem} (h : kSI s 30 20 i 0 u v) (hi : i < 10) : kSI s 30 20 (i + 1) 0 u (kv_sr (kv_sr (kv_al (kv_al v)) v.1 0 (some (v.1 + 1))) (s + 6) i (some v.1)) := by
  obtain ⟨n, hb, hI, hJ, hR⟩ := h
  have hv : v.1 = s + (132 + 2 * i) := by omega
  have rI : ∀ b k, (kv_sr (kv_sr (kv_al (kv_al v)) v.1 0 (some (v.1 + 1))) (s + 6) i (some v.1)).2.1 b k = if b = v.1 + 1 then 0 else (if b = v.1 then 0 else (v.2.1 b k)) := fun b k => rfl
  have rJ : ∀ b k, (kv_sr (kv_sr (kv_al (kv_al v)) v.1 0 (some (v.1 + 1))) (s + 6) i (some v.1)).2.2.1 b k = if b = v.1 + 1 then 0 else (if b = v.1 then 0 else (v.2.2.1 b k)) := fun b k => rfl
  have rR : ∀ b k, (kv_sr (kv_sr (kv_al (kv_al v)) v.1 0 (some (v.1 + 1))) (s + 6) i (some v.1)).2.2.2 b k = if b = s + 6 then (if k = i then some v.1 else (if b = v.1 then (if k = 0 then some (v.1 + 1) else (if b = v.1 + 1 then none else (if b = v.1 then none else (v.2.2.2 b k)))) else (if b = v.1 + 1 then none else (if b = v.1 then none else (v.2.2.2 b k))))) else (if b = v.1 then (if k = 0 then some (v.1 + 1) else (if b = v.1 + 1 then none else (if b = v.1 then none else (v.2.2.2 b k)))) else (if b = v.1 + 1 then none else (if b = v.1 then none else (v.2.2.2 b k)))) := fun b k => rfl
  have hsz : (kv_sr (kv_sr (kv_al (kv_al v)) v.1 0 (some (v.1 + 1))) (s + 6) i (some v.1)).1 = v.1 + 2 := rfl
  have oI : ∀ b k, b < v.1 → (kv_sr (kv_sr (kv_al (kv_al v)) v.1 0 (some (v.1 + 1))) (s + 6) i (some v.1)).2.1 b k = v.2.1 b k := fun b k q => by rw [rI, if_neg (by omega), if_neg (by omega)]
  have oJ : ∀ b k, b < v.1 → (kv_sr (kv_sr (kv_al (kv_al v)) v.1 0 (some (v.1 + 1))) (s + 6) i (some v.1)).2.2.1 b k = v.2.2.1 b k := fun b k q => by rw [rJ, if_neg (by omega), if_neg (by omega)]
  have oR : ∀ b k, b < v.1 → ¬ b = s + 6 → (kv_sr (kv_sr (kv_al (kv_al v)) v.1 0 (some (v.1 + 1))) (s + 6) i (some v.1)).2.2.2 b k = v.2.2.2 b k := fun b k q q2 => by rw [rR, if_neg q2, if_neg (by omega), if_neg (by omega), if_neg (by omega)]
  refine ⟨by rw [hsz]; omega, fun b q k => ⟨(oI b k (by omega)).trans (hb b q k).1, (oJ b k (by omega)).trans (hb b q k).2.1, (oR b k (by omega) (by omega)).trans (hb b q k).2.2⟩, fun b q1 q2 k => ?_, fun b q1 q2 k => ?_, fun b q1 q2 k c hc => ?_⟩
  · rw [hsz] at q2
    by_cases z : b < v.1
    · exact (oI b k z).trans (hI b q1 z k)
    · have e : kIS s b k = 0 := by unfold kIS; rw [if_neg (by omega), if_neg (by omega)]
      rw [e, rI]
      rcases (show b = v.1 ∨ b = v.1 + 1 by omega) with rfl | rfl
      · rw [if_neg (by omega), if_pos rfl]
      · rw [if_pos rfl]
  · rw [hsz] at q2
    by_cases z : b < v.1
    · exact (oJ b k z).trans (hJ b q1 z k)
    · rw [rJ]
      rcases (show b = v.1 ∨ b = v.1 + 1 by omega) with rfl | rfl
      · rw [if_neg (by omega), if_pos rfl]
      · rw [if_pos rfl]
  · rw [hsz] at q2
    by_cases z0 : b = s + 6
    · subst z0
      rw [rR, if_pos rfl]
      unfold kXr at hc
      rw [if_neg (by omega), if_neg (by omega), if_pos rfl] at hc
      by_cases zk : k = i
      · subst zk
        rw [if_pos (by omega)] at hc
        rw [if_pos rfl, hv]
        exact hc
      · rw [if_neg zk, if_neg (by omega), if_neg (by omega), if_neg (by omega)]
        refine hR _ q1 (by omega) k c ?_
        unfold kXr
        rw [if_neg (by omega), if_neg (by omega), if_pos rfl]
        by_cases zl : k < i
        · rw [if_pos (by omega)] at hc; rw [if_pos zl]; exact hc
        · rw [if_neg (by omega)] at hc; exact absurd hc (by simp)
    · by_cases z : b < v.1
      · rw [oR b k z z0]
        refine hR b q1 z k c ?_
        rw [← hc]
        unfold kXr
        by_cases y1 : b = s + 1
        · rw [if_pos y1, if_pos y1]
        · rw [if_neg y1, if_neg y1]
          by_cases y5 : b = s + 5
          · rw [if_pos y5, if_pos y5]
          · rw [if_neg y5, if_neg y5]
            by_cases y6 : b = s + 6
            · exact absurd y6 z0
            · rw [if_neg y6, if_neg y6]
      · unfold kXr at hc
        rw [if_neg (by omega), if_neg (by omega), if_neg (by omega), if_neg (by omega)] at hc
        rw [rR, if_neg z0]
        rcases (show b = v.1 ∨ b = v.1 + 1 by omega) with rfl | rfl
        · rw [show v.1 - s = 132 + 2 * i by omega, (kr_treaty hi).1] at hc
          by_cases zk : k = 0
          · rw [if_pos zk] at hc; rw [if_pos rfl, if_pos zk, hv]; exact hc
          · rw [if_neg zk] at hc; exact absurd hc (by simp)
        · rw [show v.1 + 1 - s = 132 + 2 * i + 1 by omega, (kr_treaty hi).2] at hc
          exact absurd hc (by simp)
theorem kSI.entry {s i : Nat} {u v : KMem} (h : kSI s 30 20 10 i u v) (hi : i < 40) : kSI s 30 20 10 (i + 1) u (kv_sr (kv_al v) (s + 7) i (some v.1)) := by
  obtain ⟨n, hb, hI, hJ, hR⟩ := h
  have hv : v.1 = s + (152 + i) := by omega
  have rI : ∀ b k, (kv_sr (kv_al v) (s + 7) i (some v.1)).2.1 b k = if b = v.1 then 0 else (v.2.1 b k) := fun b k => rfl
  have rJ : ∀ b k, (kv_sr (kv_al v) (s + 7) i (some v.1)).2.2.1 b k = if b = v.1 then 0 else (v.2.2.1 b k) := fun b k => rfl
  have rR : ∀ b k, (kv_sr (kv_al v) (s + 7) i (some v.1)).2.2.2 b k = if b = s + 7 then (if k = i then some v.1 else (if b = v.1 then none else (v.2.2.2 b k))) else (if b = v.1 then none else (v.2.2.2 b k)) := fun b k => rfl
  have hsz : (kv_sr (kv_al v) (s + 7) i (some v.1)).1 = v.1 + 1 := rfl
  have oI : ∀ b k, b < v.1 → (kv_sr (kv_al v) (s + 7) i (some v.1)).2.1 b k = v.2.1 b k := fun b k q => by rw [rI, if_neg (by omega)]
  have oJ : ∀ b k, b < v.1 → (kv_sr (kv_al v) (s + 7) i (some v.1)).2.2.1 b k = v.2.2.1 b k := fun b k q => by rw [rJ, if_neg (by omega)]
  have oR : ∀ b k, b < v.1 → ¬ b = s + 7 → (kv_sr (kv_al v) (s + 7) i (some v.1)).2.2.2 b k = v.2.2.2 b k := fun b k q q2 => by rw [rR, if_neg q2, if_neg (by omega)]
  refine ⟨by rw [hsz]; omega, fun b q k => ⟨(oI b k (by omega)).trans (hb b q k).1, (oJ b k (by omega)).trans (hb b q k).2.1, (oR b k (by omega) (by omega)).trans (hb b q k).2.2⟩, fun b q1 q2 k => ?_, fun b q1 q2 k => ?_, fun b q1 q2 k c hc => ?_⟩
  · rw [hsz] at q2
    by_cases z : b < v.1
    · exact (oI b k z).trans (hI b q1 z k)
    · have e : kIS s b k = 0 := by unfold kIS; rw [if_neg (by omega), if_neg (by omega)]
      rw [e, rI]
      rcases (show b = v.1 by omega) with rfl
      · rw [if_pos rfl]
  · rw [hsz] at q2
    by_cases z : b < v.1
    · exact (oJ b k z).trans (hJ b q1 z k)
    · rw [rJ]
      rcases (show b = v.1 by omega) with rfl
      · rw [if_pos rfl]
  · rw [hsz] at q2
    by_cases z0 : b = s + 7
    · subst z0
      rw [rR, if_pos rfl]
      unfold kXr at hc
      rw [if_neg (by omega), if_neg (by omega), if_neg (by omega), if_pos rfl] at hc
      by_cases zk : k = i
      · subst zk
        rw [if_pos (by omega)] at hc
        rw [if_pos rfl, hv]
        exact hc
      · rw [if_neg zk, if_neg (by omega)]
        refine hR _ q1 (by omega) k c ?_
        unfold kXr
        rw [if_neg (by omega), if_neg (by omega), if_neg (by omega), if_pos rfl]
        by_cases zl : k < i
        · rw [if_pos (by omega)] at hc; rw [if_pos zl]; exact hc
        · rw [if_neg (by omega)] at hc; exact absurd hc (by simp)
    · by_cases z : b < v.1
      · rw [oR b k z z0]
        refine hR b q1 z k c ?_
        rw [← hc]
        unfold kXr
        by_cases y1 : b = s + 1
        · rw [if_pos y1, if_pos y1]
        · rw [if_neg y1, if_neg y1]
          by_cases y5 : b = s + 5
          · rw [if_pos y5, if_pos y5]
          · rw [if_neg y5, if_neg y5]
            by_cases y6 : b = s + 6
            · rw [if_pos y6, if_pos y6]
            · rw [if_neg y6, if_neg y6]
              by_cases y7 : b = s + 7
              · exact absurd y7 z0
              · rw [if_neg y7, if_neg y7]
      · unfold kXr at hc
        rw [if_neg (by omega), if_neg (by omega), if_neg (by omega), if_neg (by omega)] at hc
        rw [rR, if_neg z0]
        rcases (show b = v.1 by omega) with rfl
        · rw [show v.1 - s = 152 + i by omega, kr_entry (i := i) hi] at hc
          exact absurd hc (by simp)
