theorem kn_pm (n : Nat) : nI n - 1 + 1 = nI n := by rw [Int32.sub_add_cancel]
theorem kn_pi (n : Nat) : nI n - 1 + Int32.ofInt 1 = nI n := kn_pm n
theorem kCode {f : Nat → Int32} {n i : Nat} (h : kDep f n = some 1) (hi : i < n) : (¬ f i < 0 ∧ ¬ 10000 ≤ f i) ∨ f i = 10000 ∨ f i = 10001 ∨ f i = 10002 ∨ f i = 10003 ∨ f i = 20011 ∨ f i = 20012 ∨ f i = 20000 ∨ f i = 20001 ∨ f i = 20002 ∨ f i = 20003 ∨ f i = 20004 ∨ f i = 20005 ∨ f i = 20006 ∨ f i = 20007 ∨ f i = 20008 ∨ f i = 20009 ∨ f i = 20010 := by
  obtain ⟨e, h1, h2⟩ := kDep_le h i (by omega)
  obtain ⟨e', h3, h4⟩ := kDep_le h (i + 1) hi
  rw [kDep, h1] at h3
  simp only at h3
  have E : ∀ k : Nat, k < 30000 → (f i).toInt = k → f i = nI k := fun k hk q => kn_i32 (by rw [q, nI_toInt (by omega)])
  have c : (0 ≤ (f i).toInt ∧ (f i).toInt < 10004) ∨ (20000 ≤ (f i).toInt ∧ (f i).toInt < 20013) := by
    split at h3
    · rename_i q
      have q1 := kLe.mp q.1; have q2 := kLt.mp q.2
      rw [kT0] at q1; rw [kT10004] at q2
      exact Or.inl ⟨q1, q2⟩
    · split at h3
      · rename_i q
        rcases q with q | q <;> rw [q]
        · rw [kT20011]; omega
        · rw [kT20012]; omega
      · split at h3
        · rename_i q
          have q1 := kLe.mp q.1; have q2 := kLt.mp q.2
          rw [kT20000] at q1; rw [kT20011] at q2
          omega
        · cases h3
  by_cases hz : (f i).toInt < 10000
  · refine Or.inl ⟨fun q => ?_, fun q => ?_⟩
    · have := kLt.mp q; rw [kT0] at this; omega
    · have := kLe.mp q; rw [kT10000] at this; omega
  · refine Or.inr ?_
    rcases (show (f i).toInt = (10000 : Nat) ∨ (f i).toInt = (10001 : Nat) ∨ (f i).toInt = (10002 : Nat) ∨ (f i).toInt = (10003 : Nat) ∨ (f i).toInt = (20011 : Nat) ∨ (f i).toInt = (20012 : Nat) ∨ (f i).toInt = (20000 : Nat) ∨ (f i).toInt = (20001 : Nat) ∨ (f i).toInt = (20002 : Nat) ∨ (f i).toInt = (20003 : Nat) ∨ (f i).toInt = (20004 : Nat) ∨ (f i).toInt = (20005 : Nat) ∨ (f i).toInt = (20006 : Nat) ∨ (f i).toInt = (20007 : Nat) ∨ (f i).toInt = (20008 : Nat) ∨ (f i).toInt = (20009 : Nat) ∨ (f i).toInt = (20010 : Nat) by omega) with q | q | q | q | q | q | q | q | q | q | q | q | q | q | q | q | q
    · exact Or.inl (E 10000 (by decide) q)
    · exact Or.inr (Or.inl (E 10001 (by decide) q))
    · exact Or.inr (Or.inr (Or.inl (E 10002 (by decide) q)))
    · exact Or.inr (Or.inr (Or.inr (Or.inl (E 10003 (by decide) q))))
    · exact Or.inr (Or.inr (Or.inr (Or.inr (Or.inl (E 20011 (by decide) q)))))
    · exact Or.inr (Or.inr (Or.inr (Or.inr (Or.inr (Or.inl (E 20012 (by decide) q))))))
    · exact Or.inr (Or.inr (Or.inr (Or.inr (Or.inr (Or.inr (Or.inl (E 20000 (by decide) q)))))))
    · exact Or.inr (Or.inr (Or.inr (Or.inr (Or.inr (Or.inr (Or.inr (Or.inl (E 20001 (by decide) q))))))))
    · exact Or.inr (Or.inr (Or.inr (Or.inr (Or.inr (Or.inr (Or.inr (Or.inr (Or.inl (E 20002 (by decide) q)))))))))
    · exact Or.inr (Or.inr (Or.inr (Or.inr (Or.inr (Or.inr (Or.inr (Or.inr (Or.inr (Or.inl (E 20003 (by decide) q))))))))))
    · exact Or.inr (Or.inr (Or.inr (Or.inr (Or.inr (Or.inr (Or.inr (Or.inr (Or.inr (Or.inr (Or.inl (E 20004 (by decide) q)))))))))))
    · exact Or.inr (Or.inr (Or.inr (Or.inr (Or.inr (Or.inr (Or.inr (Or.inr (Or.inr (Or.inr (Or.inr (Or.inl (E 20005 (by decide) q))))))))))))
    · exact Or.inr (Or.inr (Or.inr (Or.inr (Or.inr (Or.inr (Or.inr (Or.inr (Or.inr (Or.inr (Or.inr (Or.inr (Or.inl (E 20006 (by decide) q)))))))))))))
    · exact Or.inr (Or.inr (Or.inr (Or.inr (Or.inr (Or.inr (Or.inr (Or.inr (Or.inr (Or.inr (Or.inr (Or.inr (Or.inr (Or.inl (E 20007 (by decide) q))))))))))))))
    · exact Or.inr (Or.inr (Or.inr (Or.inr (Or.inr (Or.inr (Or.inr (Or.inr (Or.inr (Or.inr (Or.inr (Or.inr (Or.inr (Or.inr (Or.inl (E 20008 (by decide) q)))))))))))))))
    · exact Or.inr (Or.inr (Or.inr (Or.inr (Or.inr (Or.inr (Or.inr (Or.inr (Or.inr (Or.inr (Or.inr (Or.inr (Or.inr (Or.inr (Or.inr (Or.inl (E 20009 (by decide) q))))))))))))))))
    · exact Or.inr (Or.inr (Or.inr (Or.inr (Or.inr (Or.inr (Or.inr (Or.inr (Or.inr (Or.inr (Or.inr (Or.inr (Or.inr (Or.inr (Or.inr (Or.inr ((E 20010 (by decide) q)))))))))))))))))
theorem kmx {x y : Int32} (h : x ≤ y) : kDone 20009 x y = y := by
  show (if x < y then y else x) = y
  split
  · rfl
  · rename_i q; rw [kLt] at q; rw [kLe] at h; exact kn_i32 (by omega)
theorem kmx2 {x y : Int32} (h : ¬ x ≤ y) : kDone 20009 x y = x := by
  show (if x < y then y else x) = x
  rw [if_neg (fun q => h (by rw [kLt] at q; rw [kLe]; omega))]
theorem kmn {x y : Int32} (h : y ≤ x) : kDone 20010 x y = y := by
  show (if y < x then y else x) = y
  split
  · rfl
  · rename_i q; rw [kLt] at q; rw [kLe] at h; exact kn_i32 (by omega)
theorem kmn2 {x y : Int32} (h : ¬ y ≤ x) : kDone 20010 x y = x := by
  show (if y < x then y else x) = x
  rw [if_neg (fun q => h (by rw [kLt] at q; rw [kLe]; omega))]
def kSg (c : Int32) : Int32 := if c = 20000 then 124 else if c = 20001 then 38 else if c = 20002 then 60 else if c = 20003 then 61 else if c = 20004 then 62 else if c = 20005 then 43 else if c = 20006 then 45 else if c = 20007 then 42 else if c = 20008 then 47 else if c = 20009 then 103 else if c = 20010 then 108 else 0
set_option maxRecDepth 20000 in
set_option maxHeartbeats 4000000 in
theorem qX9_join {w : KW} {l : Launch} {u : KMem} (hu : kWd u) (c x y : Int32) (hc : c = 20000 ∨ c = 20001 ∨ c = 20002 ∨ c = 20003 ∨ c = 20004 ∨ c = 20005 ∨ c = 20006 ∨ c = 20007 ∨ c = 20008 ∨ c = 20009 ∨ c = 20010) : KC w l mX9_join 0 0 0 [.int (kSg c), .int x, .int y] u (kq (some (.int (kDone c x y))) u) := by
  refine KC.of (ls := [_, _, _]) rfl rfl (Nat.le_of_ble_eq_true rfl) ?_
  refine kv_iload_n dX9_join_0 rfl ?_
  rcases hc with rfl | rfl | rfl | rfl | rfl | rfl | rfl | rfl | rfl | rfl | rfl
  · rw [show kSg 20000 = 124 from by decide]
    refine kv_lookup dX9_join_1 100 (by decide +kernel) rfl (by decide +kernel) ?_
    refine kv_iload_n dX9_join_100 rfl ?_
    refine kv_if_ne dX9_join_101 108 (by decide) (fun h1 => ?_) (fun h1 => ?_)
    · refine kv_iconst dX9_join_108 1 ki_1 ?_
      refine kv_goto dX9_join_109 113 (by decide) ?_
      exact kv_iret dX9_join_113 rfl ⟨by first | (unfold kDone; simp [*]; done) | exact congrArg (fun z => some (Value.int z)) (kmx ‹_›).symm | exact congrArg (fun z => some (Value.int z)) (kmx2 ‹_›).symm | exact congrArg (fun z => some (Value.int z)) (kmn ‹_›).symm | exact congrArg (fun z => some (Value.int z)) (kmn2 ‹_›).symm, rfl⟩
    · refine kv_iload_n dX9_join_104 rfl ?_
      refine kv_if_eq dX9_join_105 112 (by decide) (fun h2 => ?_) (fun h2 => ?_)
      · refine kv_iconst dX9_join_112 0 ki_0 ?_
        exact kv_iret dX9_join_113 rfl ⟨by first | (unfold kDone; simp [*]; done) | exact congrArg (fun z => some (Value.int z)) (kmx ‹_›).symm | exact congrArg (fun z => some (Value.int z)) (kmx2 ‹_›).symm | exact congrArg (fun z => some (Value.int z)) (kmn ‹_›).symm | exact congrArg (fun z => some (Value.int z)) (kmn2 ‹_›).symm, rfl⟩
      · refine kv_iconst dX9_join_108 1 ki_1 ?_
        refine kv_goto dX9_join_109 113 (by decide) ?_
        exact kv_iret dX9_join_113 rfl ⟨by first | (unfold kDone; simp [*]; done) | exact congrArg (fun z => some (Value.int z)) (kmx ‹_›).symm | exact congrArg (fun z => some (Value.int z)) (kmx2 ‹_›).symm | exact congrArg (fun z => some (Value.int z)) (kmn ‹_›).symm | exact congrArg (fun z => some (Value.int z)) (kmn2 ‹_›).symm, rfl⟩
  · rw [show kSg 20001 = 38 from by decide]
    refine kv_lookup dX9_join_1 114 (by decide +kernel) rfl (by decide +kernel) ?_
    refine kv_iload_n dX9_join_114 rfl ?_
    refine kv_if_eq dX9_join_115 126 (by decide) (fun h3 => ?_) (fun h3 => ?_)
    · refine kv_iconst dX9_join_126 0 ki_0 ?_
      exact kv_iret dX9_join_127 rfl ⟨by first | (unfold kDone; simp [*]; done) | exact congrArg (fun z => some (Value.int z)) (kmx ‹_›).symm | exact congrArg (fun z => some (Value.int z)) (kmx2 ‹_›).symm | exact congrArg (fun z => some (Value.int z)) (kmn ‹_›).symm | exact congrArg (fun z => some (Value.int z)) (kmn2 ‹_›).symm, rfl⟩
    · refine kv_iload_n dX9_join_118 rfl ?_
      refine kv_if_eq dX9_join_119 126 (by decide) (fun h4 => ?_) (fun h4 => ?_)
      · refine kv_iconst dX9_join_126 0 ki_0 ?_
        exact kv_iret dX9_join_127 rfl ⟨by first | (unfold kDone; simp [*]; done) | exact congrArg (fun z => some (Value.int z)) (kmx ‹_›).symm | exact congrArg (fun z => some (Value.int z)) (kmx2 ‹_›).symm | exact congrArg (fun z => some (Value.int z)) (kmn ‹_›).symm | exact congrArg (fun z => some (Value.int z)) (kmn2 ‹_›).symm, rfl⟩
      · refine kv_iconst dX9_join_122 1 ki_1 ?_
        refine kv_goto dX9_join_123 127 (by decide) ?_
        exact kv_iret dX9_join_127 rfl ⟨by first | (unfold kDone; simp [*]; done) | exact congrArg (fun z => some (Value.int z)) (kmx ‹_›).symm | exact congrArg (fun z => some (Value.int z)) (kmx2 ‹_›).symm | exact congrArg (fun z => some (Value.int z)) (kmn ‹_›).symm | exact congrArg (fun z => some (Value.int z)) (kmn2 ‹_›).symm, rfl⟩
  · rw [show kSg 20002 = 60 from by decide]
    refine kv_lookup dX9_join_1 128 (by decide +kernel) rfl (by decide +kernel) ?_
    refine kv_iload_n dX9_join_128 rfl ?_
    refine kv_iload_n dX9_join_129 rfl ?_
    refine kv_icmp_ge dX9_join_130 137 (by decide) (fun h5 => ?_) (fun h5 => ?_)
    · refine kv_iconst dX9_join_137 0 ki_0 ?_
      exact kv_iret dX9_join_138 rfl ⟨by first | (unfold kDone; simp [*]; done) | exact congrArg (fun z => some (Value.int z)) (kmx ‹_›).symm | exact congrArg (fun z => some (Value.int z)) (kmx2 ‹_›).symm | exact congrArg (fun z => some (Value.int z)) (kmn ‹_›).symm | exact congrArg (fun z => some (Value.int z)) (kmn2 ‹_›).symm, rfl⟩
    · refine kv_iconst dX9_join_133 1 ki_1 ?_
      refine kv_goto dX9_join_134 138 (by decide) ?_
      exact kv_iret dX9_join_138 rfl ⟨by first | (unfold kDone; simp [*]; done) | exact congrArg (fun z => some (Value.int z)) (kmx ‹_›).symm | exact congrArg (fun z => some (Value.int z)) (kmx2 ‹_›).symm | exact congrArg (fun z => some (Value.int z)) (kmn ‹_›).symm | exact congrArg (fun z => some (Value.int z)) (kmn2 ‹_›).symm, rfl⟩
  · rw [show kSg 20003 = 61 from by decide]
    refine kv_lookup dX9_join_1 139 (by decide +kernel) rfl (by decide +kernel) ?_
    refine kv_iload_n dX9_join_139 rfl ?_
    refine kv_iload_n dX9_join_140 rfl ?_
    refine kv_icmp_ne dX9_join_141 148 (by decide) (fun h6 => ?_) (fun h6 => ?_)
    · refine kv_iconst dX9_join_148 0 ki_0 ?_
      exact kv_iret dX9_join_149 rfl ⟨by first | (unfold kDone; simp [*]; done) | exact congrArg (fun z => some (Value.int z)) (kmx ‹_›).symm | exact congrArg (fun z => some (Value.int z)) (kmx2 ‹_›).symm | exact congrArg (fun z => some (Value.int z)) (kmn ‹_›).symm | exact congrArg (fun z => some (Value.int z)) (kmn2 ‹_›).symm, rfl⟩
    · refine kv_iconst dX9_join_144 1 ki_1 ?_
      refine kv_goto dX9_join_145 149 (by decide) ?_
      exact kv_iret dX9_join_149 rfl ⟨by first | (unfold kDone; simp [*]; done) | exact congrArg (fun z => some (Value.int z)) (kmx ‹_›).symm | exact congrArg (fun z => some (Value.int z)) (kmx2 ‹_›).symm | exact congrArg (fun z => some (Value.int z)) (kmn ‹_›).symm | exact congrArg (fun z => some (Value.int z)) (kmn2 ‹_›).symm, rfl⟩
  · rw [show kSg 20004 = 62 from by decide]
    refine kv_lookup dX9_join_1 150 (by decide +kernel) rfl (by decide +kernel) ?_
    refine kv_iload_n dX9_join_150 rfl ?_
    refine kv_iload_n dX9_join_151 rfl ?_
    refine kv_icmp_le dX9_join_152 159 (by decide) (fun h7 => ?_) (fun h7 => ?_)
    · refine kv_iconst dX9_join_159 0 ki_0 ?_
      exact kv_iret dX9_join_160 rfl ⟨by first | (unfold kDone; simp [*]; done) | exact congrArg (fun z => some (Value.int z)) (kmx ‹_›).symm | exact congrArg (fun z => some (Value.int z)) (kmx2 ‹_›).symm | exact congrArg (fun z => some (Value.int z)) (kmn ‹_›).symm | exact congrArg (fun z => some (Value.int z)) (kmn2 ‹_›).symm, rfl⟩
    · refine kv_iconst dX9_join_155 1 ki_1 ?_
      refine kv_goto dX9_join_156 160 (by decide) ?_
      exact kv_iret dX9_join_160 rfl ⟨by first | (unfold kDone; simp [*]; done) | exact congrArg (fun z => some (Value.int z)) (kmx ‹_›).symm | exact congrArg (fun z => some (Value.int z)) (kmx2 ‹_›).symm | exact congrArg (fun z => some (Value.int z)) (kmn ‹_›).symm | exact congrArg (fun z => some (Value.int z)) (kmn2 ‹_›).symm, rfl⟩
  · rw [show kSg 20005 = 43 from by decide]
    refine kv_lookup dX9_join_1 161 (by decide +kernel) rfl (by decide +kernel) ?_
    refine kv_iload_n dX9_join_161 rfl ?_
    refine kv_iload_n dX9_join_162 rfl ?_
    refine kv_iadd dX9_join_163 ?_
    exact kv_iret dX9_join_164 rfl ⟨by first | (unfold kDone; simp [*]; done) | exact congrArg (fun z => some (Value.int z)) (kmx ‹_›).symm | exact congrArg (fun z => some (Value.int z)) (kmx2 ‹_›).symm | exact congrArg (fun z => some (Value.int z)) (kmn ‹_›).symm | exact congrArg (fun z => some (Value.int z)) (kmn2 ‹_›).symm, rfl⟩
  · rw [show kSg 20006 = 45 from by decide]
    refine kv_lookup dX9_join_1 165 (by decide +kernel) rfl (by decide +kernel) ?_
    refine kv_iload_n dX9_join_165 rfl ?_
    refine kv_iload_n dX9_join_166 rfl ?_
    refine kv_isub dX9_join_167 ?_
    exact kv_iret dX9_join_168 rfl ⟨by first | (unfold kDone; simp [*]; done) | exact congrArg (fun z => some (Value.int z)) (kmx ‹_›).symm | exact congrArg (fun z => some (Value.int z)) (kmx2 ‹_›).symm | exact congrArg (fun z => some (Value.int z)) (kmn ‹_›).symm | exact congrArg (fun z => some (Value.int z)) (kmn2 ‹_›).symm, rfl⟩
  · rw [show kSg 20007 = 42 from by decide]
    refine kv_lookup dX9_join_1 169 (by decide +kernel) rfl (by decide +kernel) ?_
    refine kv_iload_n dX9_join_169 rfl ?_
    refine kv_iload_n dX9_join_170 rfl ?_
    refine kv_imul dX9_join_171 ?_
    exact kv_iret dX9_join_172 rfl ⟨by first | (unfold kDone; simp [*]; done) | exact congrArg (fun z => some (Value.int z)) (kmx ‹_›).symm | exact congrArg (fun z => some (Value.int z)) (kmx2 ‹_›).symm | exact congrArg (fun z => some (Value.int z)) (kmn ‹_›).symm | exact congrArg (fun z => some (Value.int z)) (kmn2 ‹_›).symm, rfl⟩
  · rw [show kSg 20008 = 47 from by decide]
    refine kv_lookup dX9_join_1 173 (by decide +kernel) rfl (by decide +kernel) ?_
    refine kv_iload_n dX9_join_173 rfl ?_
    refine kv_if_ne dX9_join_174 181 (by decide) (fun h8 => ?_) (fun h8 => ?_)
    · refine kv_iload_n dX9_join_181 rfl ?_
      refine kv_iload_n dX9_join_182 rfl ?_
      refine kv_idiv dX9_join_183 (by assumption) ?_
      exact kv_iret dX9_join_184 rfl ⟨by first | (unfold kDone; simp [*]; done) | exact congrArg (fun z => some (Value.int z)) (kmx ‹_›).symm | exact congrArg (fun z => some (Value.int z)) (kmx2 ‹_›).symm | exact congrArg (fun z => some (Value.int z)) (kmn ‹_›).symm | exact congrArg (fun z => some (Value.int z)) (kmn2 ‹_›).symm, rfl⟩
    · refine kv_iconst dX9_join_177 0 ki_0 ?_
      refine kv_goto dX9_join_178 184 (by decide) ?_
      exact kv_iret dX9_join_184 rfl ⟨by first | (unfold kDone; simp [*]; done) | exact congrArg (fun z => some (Value.int z)) (kmx ‹_›).symm | exact congrArg (fun z => some (Value.int z)) (kmx2 ‹_›).symm | exact congrArg (fun z => some (Value.int z)) (kmn ‹_›).symm | exact congrArg (fun z => some (Value.int z)) (kmn2 ‹_›).symm, rfl⟩
  · rw [show kSg 20009 = 103 from by decide]
    refine kv_lookup dX9_join_1 185 (by decide +kernel) rfl (by decide +kernel) ?_
    refine kv_iload_n dX9_join_185 rfl ?_
    refine kv_iload_n dX9_join_186 rfl ?_
    refine kv_icmp_le dX9_join_187 194 (by decide) (fun h9 => ?_) (fun h9 => ?_)
    · refine kv_iload_n dX9_join_194 rfl ?_
      exact kv_iret dX9_join_195 rfl ⟨by first | (unfold kDone; simp [*]; done) | exact congrArg (fun z => some (Value.int z)) (kmx ‹_›).symm | exact congrArg (fun z => some (Value.int z)) (kmx2 ‹_›).symm | exact congrArg (fun z => some (Value.int z)) (kmn ‹_›).symm | exact congrArg (fun z => some (Value.int z)) (kmn2 ‹_›).symm, rfl⟩
    · refine kv_iload_n dX9_join_190 rfl ?_
      refine kv_goto dX9_join_191 195 (by decide) ?_
      exact kv_iret dX9_join_195 rfl ⟨by first | (unfold kDone; simp [*]; done) | exact congrArg (fun z => some (Value.int z)) (kmx ‹_›).symm | exact congrArg (fun z => some (Value.int z)) (kmx2 ‹_›).symm | exact congrArg (fun z => some (Value.int z)) (kmn ‹_›).symm | exact congrArg (fun z => some (Value.int z)) (kmn2 ‹_›).symm, rfl⟩
  · rw [show kSg 20010 = 108 from by decide]
    refine kv_lookup dX9_join_1 196 (by decide +kernel) rfl (by decide +kernel) ?_
    refine kv_iload_n dX9_join_196 rfl ?_
    refine kv_iload_n dX9_join_197 rfl ?_
    refine kv_icmp_ge dX9_join_198 205 (by decide) (fun h10 => ?_) (fun h10 => ?_)
    · refine kv_iload_n dX9_join_205 rfl ?_
      exact kv_iret dX9_join_206 rfl ⟨by first | (unfold kDone; simp [*]; done) | exact congrArg (fun z => some (Value.int z)) (kmx ‹_›).symm | exact congrArg (fun z => some (Value.int z)) (kmx2 ‹_›).symm | exact congrArg (fun z => some (Value.int z)) (kmn ‹_›).symm | exact congrArg (fun z => some (Value.int z)) (kmn2 ‹_›).symm, rfl⟩
    · refine kv_iload_n dX9_join_201 rfl ?_
      refine kv_goto dX9_join_202 206 (by decide) ?_
      exact kv_iret dX9_join_206 rfl ⟨by first | (unfold kDone; simp [*]; done) | exact congrArg (fun z => some (Value.int z)) (kmx ‹_›).symm | exact congrArg (fun z => some (Value.int z)) (kmx2 ‹_›).symm | exact congrArg (fun z => some (Value.int z)) (kmn ‹_›).symm | exact congrArg (fun z => some (Value.int z)) (kmn2 ‹_›).symm, rfl⟩

