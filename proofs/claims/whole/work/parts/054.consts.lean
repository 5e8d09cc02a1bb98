theorem ki_m1 : Int32.ofInt (-1) = (-1) := by decide +kernel
theorem ki_0 : Int32.ofInt (0) = 0 := by decide +kernel
theorem ki_1 : Int32.ofInt (1) = 1 := by decide +kernel
theorem ki_2 : Int32.ofInt (2) = 2 := by decide +kernel
theorem ki_3 : Int32.ofInt (3) = 3 := by decide +kernel
theorem ki_4 : Int32.ofInt (4) = 4 := by decide +kernel
theorem ki_5 : Int32.ofInt (5) = 5 := by decide +kernel
theorem kb_m10 : (Int8.ofInt (-10)).toInt32 = (-10) := by decide +kernel
theorem kb_m3 : (Int8.ofInt (-3)).toInt32 = (-3) := by decide +kernel
theorem kb_m2 : (Int8.ofInt (-2)).toInt32 = (-2) := by decide +kernel
theorem kb_6 : (Int8.ofInt (6)).toInt32 = 6 := by decide +kernel
theorem kb_7 : (Int8.ofInt (7)).toInt32 = 7 := by decide +kernel
theorem kb_8 : (Int8.ofInt (8)).toInt32 = 8 := by decide +kernel
theorem kb_9 : (Int8.ofInt (9)).toInt32 = 9 := by decide +kernel
theorem kb_10 : (Int8.ofInt (10)).toInt32 = 10 := by decide +kernel
theorem kb_11 : (Int8.ofInt (11)).toInt32 = 11 := by decide +kernel
theorem kb_12 : (Int8.ofInt (12)).toInt32 = 12 := by decide +kernel
theorem kb_13 : (Int8.ofInt (13)).toInt32 = 13 := by decide +kernel
theorem kb_14 : (Int8.ofInt (14)).toInt32 = 14 := by decide +kernel
theorem kb_15 : (Int8.ofInt (15)).toInt32 = 15 := by decide +kernel
theorem kb_16 : (Int8.ofInt (16)).toInt32 = 16 := by decide +kernel
theorem kb_20 : (Int8.ofInt (20)).toInt32 = 20 := by decide +kernel
theorem kb_21 : (Int8.ofInt (21)).toInt32 = 21 := by decide +kernel
theorem kb_24 : (Int8.ofInt (24)).toInt32 = 24 := by decide +kernel
theorem kb_30 : (Int8.ofInt (30)).toInt32 = 30 := by decide +kernel
theorem kb_31 : (Int8.ofInt (31)).toInt32 = 31 := by decide +kernel
theorem kb_32 : (Int8.ofInt (32)).toInt32 = 32 := by decide +kernel
theorem kb_33 : (Int8.ofInt (33)).toInt32 = 33 := by decide +kernel
theorem kb_40 : (Int8.ofInt (40)).toInt32 = 40 := by decide +kernel
theorem kb_41 : (Int8.ofInt (41)).toInt32 = 41 := by decide +kernel
theorem kb_44 : (Int8.ofInt (44)).toInt32 = 44 := by decide +kernel
theorem kb_45 : (Int8.ofInt (45)).toInt32 = 45 := by decide +kernel
theorem kb_48 : (Int8.ofInt (48)).toInt32 = 48 := by decide +kernel
theorem kb_50 : (Int8.ofInt (50)).toInt32 = 50 := by decide +kernel
theorem kb_51 : (Int8.ofInt (51)).toInt32 = 51 := by decide +kernel
theorem kb_52 : (Int8.ofInt (52)).toInt32 = 52 := by decide +kernel
theorem kb_57 : (Int8.ofInt (57)).toInt32 = 57 := by decide +kernel
theorem kb_60 : (Int8.ofInt (60)).toInt32 = 60 := by decide +kernel
theorem kb_61 : (Int8.ofInt (61)).toInt32 = 61 := by decide +kernel
theorem kb_63 : (Int8.ofInt (63)).toInt32 = 63 := by decide +kernel
theorem kb_66 : (Int8.ofInt (66)).toInt32 = 66 := by decide +kernel
theorem kb_70 : (Int8.ofInt (70)).toInt32 = 70 := by decide +kernel
theorem kb_96 : (Int8.ofInt (96)).toInt32 = 96 := by decide +kernel
theorem kb_97 : (Int8.ofInt (97)).toInt32 = 97 := by decide +kernel
theorem kb_99 : (Int8.ofInt (99)).toInt32 = 99 := by decide +kernel
theorem kb_100 : (Int8.ofInt (100)).toInt32 = 100 := by decide +kernel
theorem kb_101 : (Int8.ofInt (101)).toInt32 = 101 := by decide +kernel
theorem kb_103 : (Int8.ofInt (103)).toInt32 = 103 := by decide +kernel
theorem kb_105 : (Int8.ofInt (105)).toInt32 = 105 := by decide +kernel
theorem kb_108 : (Int8.ofInt (108)).toInt32 = 108 := by decide +kernel
theorem kb_109 : (Int8.ofInt (109)).toInt32 = 109 := by decide +kernel
theorem kb_110 : (Int8.ofInt (110)).toInt32 = 110 := by decide +kernel
theorem kb_120 : (Int8.ofInt (120)).toInt32 = 120 := by decide +kernel
theorem kb_122 : (Int8.ofInt (122)).toInt32 = 122 := by decide +kernel
theorem kz_m1110 : (Int16.ofInt (-1110)).toInt32 = (-1110) := by decide +kernel
theorem kz_m1033 : (Int16.ofInt (-1033)).toInt32 = (-1033) := by decide +kernel
theorem kz_m1000 : (Int16.ofInt (-1000)).toInt32 = (-1000) := by decide +kernel
theorem kz_255 : (Int16.ofInt (255)).toInt32 = 255 := by decide +kernel
theorem kz_256 : (Int16.ofInt (256)).toInt32 = 256 := by decide +kernel
theorem kz_280 : (Int16.ofInt (280)).toInt32 = 280 := by decide +kernel
theorem kz_328 : (Int16.ofInt (328)).toInt32 = 328 := by decide +kernel
theorem kz_384 : (Int16.ofInt (384)).toInt32 = 384 := by decide +kernel
theorem kz_468 : (Int16.ofInt (468)).toInt32 = 468 := by decide +kernel
theorem kz_999 : (Int16.ofInt (999)).toInt32 = 999 := by decide +kernel
theorem kz_1000 : (Int16.ofInt (1000)).toInt32 = 1000 := by decide +kernel
theorem kz_1128 : (Int16.ofInt (1128)).toInt32 = 1128 := by decide +kernel
theorem kz_1328 : (Int16.ofInt (1328)).toInt32 = 1328 := by decide +kernel
theorem kz_1388 : (Int16.ofInt (1388)).toInt32 = 1388 := by decide +kernel
theorem kz_1421 : (Int16.ofInt (1421)).toInt32 = 1421 := by decide +kernel
theorem kz_2047 : (Int16.ofInt (2047)).toInt32 = 2047 := by decide +kernel
theorem kz_2048 : (Int16.ofInt (2048)).toInt32 = 2048 := by decide +kernel
theorem kz_9999 : (Int16.ofInt (9999)).toInt32 = 9999 := by decide +kernel
theorem kz_10000 : (Int16.ofInt (10000)).toInt32 = 10000 := by decide +kernel
theorem kz_10001 : (Int16.ofInt (10001)).toInt32 = 10001 := by decide +kernel
theorem kz_10002 : (Int16.ofInt (10002)).toInt32 = 10002 := by decide +kernel
theorem kz_12345 : (Int16.ofInt (12345)).toInt32 = 12345 := by decide +kernel
theorem kz_20000 : (Int16.ofInt (20000)).toInt32 = 20000 := by decide +kernel
theorem kz_20001 : (Int16.ofInt (20001)).toInt32 = 20001 := by decide +kernel
theorem kz_20002 : (Int16.ofInt (20002)).toInt32 = 20002 := by decide +kernel
theorem kz_20003 : (Int16.ofInt (20003)).toInt32 = 20003 := by decide +kernel
theorem kz_20004 : (Int16.ofInt (20004)).toInt32 = 20004 := by decide +kernel
theorem kz_20005 : (Int16.ofInt (20005)).toInt32 = 20005 := by decide +kernel
theorem kz_20006 : (Int16.ofInt (20006)).toInt32 = 20006 := by decide +kernel
theorem kz_20007 : (Int16.ofInt (20007)).toInt32 = 20007 := by decide +kernel
theorem kz_20008 : (Int16.ofInt (20008)).toInt32 = 20008 := by decide +kernel
theorem kz_20009 : (Int16.ofInt (20009)).toInt32 = 20009 := by decide +kernel
theorem kz_20010 : (Int16.ofInt (20010)).toInt32 = 20010 := by decide +kernel
theorem kz_20011 : (Int16.ofInt (20011)).toInt32 = 20011 := by decide +kernel
theorem kz_20012 : (Int16.ofInt (20012)).toInt32 = 20012 := by decide +kernel
theorem kz_20999 : (Int16.ofInt (20999)).toInt32 = 20999 := by decide +kernel
theorem kl_0 : Int64.ofNat ((0 : Fin 2) : Nat) = 0 := by decide +kernel
theorem kl_1 : Int64.ofNat ((1 : Fin 2) : Nat) = 1 := by decide +kernel
theorem kv_inc1 (i : Nat) : nI i + Int32.ofInt 1 = nI (i + 1) := (nI_succ i).symm
theorem kv_inc (i : Nat) (k : Nat) : nI i + Int32.ofNat k = nI (i + k) := nI_add i k
theorem kv_z0 : narrow .boolean (.int 0) = .int 0 := by decide +kernel
theorem kv_z1 : narrow .boolean (.int 1) = .int 1 := by decide +kernel
theorem kv_zi {c : Prop} {hc : Decidable c} : narrow .boolean (.int (@ite _ c hc 1 0)) = .int (@ite _ c hc 1 0) := by
  by_cases h : c
  · rw [if_pos h]; exact kv_z1
  · rw [if_neg h]; exact kv_z0
section KW2
variable {w : KW} {l : Launch} {mm : KM} {dd nc ns pc : Nat} {ls : List (Option Value)} {rest : List Value} {u : KMem} {Q : Option Value → KMem → Prop}
theorem kw_Vi (as : List Value) (m2 : KM) {st : List Value} {d2 n ci nn N idx b : Nat} {T : u_T} {ty0 : Nat → FieldType} {x : Value} {v : KMem} (d : decode mm.2.1 pc = .ok (.invokevirtual idx, 3)) (hl : Cond.methodLink mm.1.cls idx m2.1 ∈ kv_tb) (hm : kv_MI m2 n) (hcl : kv_CL ci m2.1.cls T N ty0) (hu : kWd u) (hst : as.reverse ++ .ref b :: rest = st) (hs : kv_sh b = (ci, nn)) (h0 : Nat.blt 0 nn = true) (hn : as.length = n) (h8 : Nat.ble (kv_r8 rest) 8 = true) (hc : KC w l m2 d2 0 0 (.ref b :: as) u (kq (some x) v)) (hd : d2 + 1 ≤ dd)
    (kk : KV w l mm dd nc ns (pc + 3) ls (x :: rest) v Q) : KV w l mm dd nc ns pc ls st u Q := kw_V as d hl hm hcl hu hs h0 hst hn h8 hd hc kk
theorem kw_Vv (as : List Value) (m2 : KM) {st : List Value} {d2 n ci nn N idx b : Nat} {T : u_T} {ty0 : Nat → FieldType} {v : KMem} (d : decode mm.2.1 pc = .ok (.invokevirtual idx, 3)) (hl : Cond.methodLink mm.1.cls idx m2.1 ∈ kv_tb) (hm : kv_MI m2 n) (hcl : kv_CL ci m2.1.cls T N ty0) (hu : kWd u) (hst : as.reverse ++ .ref b :: rest = st) (hs : kv_sh b = (ci, nn)) (h0 : Nat.blt 0 nn = true) (hn : as.length = n) (h8 : Nat.ble (kv_r8 rest) 8 = true) (hc : KC w l m2 d2 0 0 (.ref b :: as) u (kq none v)) (hd : d2 + 1 ≤ dd)
    (kk : KV w l mm dd nc ns (pc + 3) ls rest v Q) : KV w l mm dd nc ns pc ls st u Q := kw_V as d hl hm hcl hu hs h0 hst hn h8 hd hc kk
theorem kw_Si (as : List Value) (m2 : KM) {st : List Value} {d2 n idx : Nat} {x : Value} {v : KMem} (d : decode mm.2.1 pc = .ok (.invokestatic idx, 3)) (hl : Cond.methodLink mm.1.cls idx m2.1 ∈ kv_tb) (hm : kv_MS m2 n) (hst : as.reverse ++ rest = st) (hn : as.length = n) (h8 : Nat.ble (kv_r8 rest) 8 = true) (hc : KC w l m2 d2 0 0 as u (kq (some x) v)) (hd : d2 + 1 ≤ dd)
    (kk : KV w l mm dd nc ns (pc + 3) ls (x :: rest) v Q) : KV w l mm dd nc ns pc ls st u Q := kw_S as d hl hm hst hn h8 hd hc kk
theorem kw_Sv (as : List Value) (m2 : KM) {st : List Value} {d2 n idx : Nat} {v : KMem} (d : decode mm.2.1 pc = .ok (.invokestatic idx, 3)) (hl : Cond.methodLink mm.1.cls idx m2.1 ∈ kv_tb) (hm : kv_MS m2 n) (hst : as.reverse ++ rest = st) (hn : as.length = n) (h8 : Nat.ble (kv_r8 rest) 8 = true) (hc : KC w l m2 d2 0 0 as u (kq none v)) (hd : d2 + 1 ≤ dd)
    (kk : KV w l mm dd nc ns (pc + 3) ls rest v Q) : KV w l mm dd nc ns pc ls st u Q := kw_S as d hl hm hst hn h8 hd hc kk
theorem kw_SNi (as : List Value) (m2 : KM) {st : List Value} {d2 n idx : Nat} {x : Value} {v : KMem} (d : decode mm.2.1 pc = .ok (.invokestatic idx, 3)) (hl : (mm.1.cls, idx, m2.1) ∈ kv_nM) (hm : kv_MS m2 n) (hst : as.reverse ++ rest = st) (hn : as.length = n) (h8 : Nat.ble (kv_r8 rest) 8 = true) (hc : KC w l m2 d2 0 0 as u (kq (some x) v)) (hd : d2 + 1 ≤ dd)
    (kk : KV w l mm dd nc ns (pc + 3) ls (x :: rest) v Q) : KV w l mm dd nc ns pc ls st u Q := kw_SN as d hl hm hst hn h8 hd hc kk
/-- the answer under another name -/
theorem kw_eq {m2 : KM} {d2 : Nat} {as : List Value} {x y : Option Value} {v v2 : KMem} (h : KC w l m2 d2 0 0 as u (kq x v)) (e : x = y) (e2 : v = v2) : KC w l m2 d2 0 0 as u (kq y v2) := by rw [← e, ← e2]; exact h
end KW2
