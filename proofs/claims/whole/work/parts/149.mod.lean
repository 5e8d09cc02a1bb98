/-! THE MODEL'S CONSTRUCTOR, AND THE FIRST STATE -/
def kP1 : Nat → Nat → Int32 := kPs kP0 417 0 99
theorem kP1_z {n : Nat} (k : Nat) (h : 418 ≤ n) : kP1 n k = 0 := by
  show (if n = 417 then (if k = 0 then (99 : Int32) else kP0 n k) else kP0 n k) = 0
  rw [if_neg (by omega)]
  exact kP0_z (n := n) (by omega) k
def kP2 : Nat → Nat → Int32 := kPs kP1 417 1 50
theorem kP2_z {n : Nat} (k : Nat) (h : 418 ≤ n) : kP2 n k = 0 := by
  show (if n = 417 then (if k = 1 then (50 : Int32) else kP1 n k) else kP1 n k) = 0
  rw [if_neg (by omega)]
  exact kP1_z k h
def kP3 : Nat → Nat → Int32 := kPs kP2 417 2 100
theorem kP3_z {n : Nat} (k : Nat) (h : 418 ≤ n) : kP3 n k = 0 := by
  show (if n = 417 then (if k = 2 then (100 : Int32) else kP2 n k) else kP2 n k) = 0
  rw [if_neg (by omega)]
  exact kP2_z k h
def kP4 : Nat → Nat → Int32 := kPs kP3 417 3 100
theorem kP4_z {n : Nat} (k : Nat) (h : 418 ≤ n) : kP4 n k = 0 := by
  show (if n = 417 then (if k = 3 then (100 : Int32) else kP3 n k) else kP3 n k) = 0
  rw [if_neg (by omega)]
  exact kP3_z k h
def kP5 : Nat → Nat → Int32 := kPs kP4 417 4 99
theorem kP5_z {n : Nat} (k : Nat) (h : 418 ≤ n) : kP5 n k = 0 := by
  show (if n = 417 then (if k = 4 then (99 : Int32) else kP4 n k) else kP4 n k) = 0
  rw [if_neg (by omega)]
  exact kP4_z k h
def kP6 : Nat → Nat → Int32 := kPs kP5 417 5 9999
theorem kP6_z {n : Nat} (k : Nat) (h : 418 ≤ n) : kP6 n k = 0 := by
  show (if n = 417 then (if k = 5 then (9999 : Int32) else kP5 n k) else kP5 n k) = 0
  rw [if_neg (by omega)]
  exact kP5_z k h
def kP7 : Nat → Nat → Int32 := kPs kP6 417 6 50
theorem kP7_z {n : Nat} (k : Nat) (h : 418 ≤ n) : kP7 n k = 0 := by
  show (if n = 417 then (if k = 6 then (50 : Int32) else kP6 n k) else kP6 n k) = 0
  rw [if_neg (by omega)]
  exact kP6_z k h
def kP8 : Nat → Nat → Int32 := kPs kP7 414 7 1
theorem kP8_z {n : Nat} (k : Nat) (h : 418 ≤ n) : kP8 n k = 0 := by
  show (if n = 414 then (if k = 7 then (1 : Int32) else kP7 n k) else kP7 n k) = 0
  rw [if_neg (by omega)]
  exact kP7_z k h
def kP9 : Nat → Nat → Int32 := kPs kP8 414 8 10
theorem kP9_z {n : Nat} (k : Nat) (h : 418 ≤ n) : kP9 n k = 0 := by
  show (if n = 414 then (if k = 8 then (10 : Int32) else kP8 n k) else kP8 n k) = 0
  rw [if_neg (by omega)]
  exact kP8_z k h
def kP10 : Nat → Nat → Int32 := kPs kP9 414 9 15
theorem kP10_z {n : Nat} (k : Nat) (h : 418 ≤ n) : kP10 n k = 0 := by
  show (if n = 414 then (if k = 9 then (15 : Int32) else kP9 n k) else kP9 n k) = 0
  rw [if_neg (by omega)]
  exact kP9_z k h
def kP11 : Nat → Nat → Int32 := kPs kP10 414 10 70
theorem kP11_z {n : Nat} (k : Nat) (h : 418 ≤ n) : kP11 n k = 0 := by
  show (if n = 414 then (if k = 10 then (70 : Int32) else kP10 n k) else kP10 n k) = 0
  rw [if_neg (by omega)]
  exact kP10_z k h
def kP12 : Nat → Nat → Int32 := kPs kP11 414 11 20
theorem kP12_z {n : Nat} (k : Nat) (h : 418 ≤ n) : kP12 n k = 0 := by
  show (if n = 414 then (if k = 11 then (20 : Int32) else kP11 n k) else kP11 n k) = 0
  rw [if_neg (by omega)]
  exact kP11_z k h
def kP13 : Nat → Nat → Int32 := kPs kP12 414 12 30
theorem kP13_z {n : Nat} (k : Nat) (h : 418 ≤ n) : kP13 n k = 0 := by
  show (if n = 414 then (if k = 12 then (30 : Int32) else kP12 n k) else kP12 n k) = 0
  rw [if_neg (by omega)]
  exact kP12_z k h
def kP14 : Nat → Nat → Int32 := kPs kP13 414 14 1
theorem kP14_z {n : Nat} (k : Nat) (h : 418 ≤ n) : kP14 n k = 0 := by
  show (if n = 414 then (if k = 14 then (1 : Int32) else kP13 n k) else kP13 n k) = 0
  rw [if_neg (by omega)]
  exact kP13_z k h
def kLM : List (Nat × Nat) := [(413, 31), (413, 30), (413, 29), (413, 28), (413, 23), (413, 21), (413, 20), (413, 18), (413, 17), (413, 16), (413, 15), (413, 14), (413, 13), (413, 12), (413, 5), (418, 2), (418, 1), (418, 0), (413, 4), (413, 3), (413, 1), (413, 0), (399, 3), (410, 3), (410, 0), (399, 2), (407, 3), (407, 0), (399, 1), (404, 3), (404, 0), (399, 0), (401, 3), (401, 0), (0, 8), (0, 7), (0, 6), (397, 0), (0, 5), (394, 0), (394, 2), (394, 1), (0, 4), (389, 1), (389, 0), (389, 6), (389, 5), (389, 4), (389, 2), (0, 3), (0, 2), (385, 0), (385, 2), (385, 1), (0, 1), (0, 0)]
set_option maxRecDepth 20000 in
set_option maxHeartbeats 4000000 in
theorem qX12_init {w : KW} {l : Launch} {u : KMem} (h0 : kMd 414 kP0 kLX u) : KC w l mX12_init 1 19 7298 [.ref 413] u (fun r v => r = none ∧ kMd 433 kP14 kLM v) := by
  have K_271 : ∀ v, kMd 433 kP14 [(413, 31), (413, 30), (413, 29), (413, 28), (413, 23), (413, 21), (413, 20), (413, 18), (413, 17), (413, 16), (413, 15), (413, 14), (413, 13), (413, 12), (413, 5), (418, 2), (418, 1), (418, 0), (413, 4), (413, 3), (413, 1), (413, 0), (399, 3), (410, 3), (410, 0), (399, 2), (407, 3), (407, 0), (399, 1), (404, 3), (404, 0), (399, 0), (401, 3), (401, 0), (0, 8), (0, 7), (0, 6), (397, 0), (0, 5), (394, 0), (394, 2), (394, 1), (0, 4), (389, 1), (389, 0), (389, 6), (389, 5), (389, 4), (389, 2), (0, 3), (0, 2), (385, 0), (385, 2), (385, 1), (0, 1), (0, 0)] v → KV w l mX12_init 1 0 0 271 [some (.ref 413)] [] v (fun r v => r = none ∧ kMd 433 kP14 kLM v) := by
    intro v hv
    exact kv_vret dX12_init_271 rfl ⟨rfl, hv⟩
  have K_263 : ∀ v, kMd 433 kP13 [(413, 31), (413, 30), (413, 29), (413, 28), (413, 23), (413, 21), (413, 20), (413, 18), (413, 17), (413, 16), (413, 15), (413, 14), (413, 13), (413, 12), (413, 5), (418, 2), (418, 1), (418, 0), (413, 4), (413, 3), (413, 1), (413, 0), (399, 3), (410, 3), (410, 0), (399, 2), (407, 3), (407, 0), (399, 1), (404, 3), (404, 0), (399, 0), (401, 3), (401, 0), (0, 8), (0, 7), (0, 6), (397, 0), (0, 5), (394, 0), (394, 2), (394, 1), (0, 4), (389, 1), (389, 0), (389, 6), (389, 5), (389, 4), (389, 2), (0, 3), (0, 2), (385, 0), (385, 2), (385, 1), (0, 1), (0, 0)] v → KV w l mX12_init 1 0 0 263 [some (.ref 413)] [] v (fun r v => r = none ∧ kMd 433 kP14 kLM v) := by
    intro v hv
    refine kv_aload_n dX12_init_263 rfl ?_
    refine kv_getR (b := 414) 32 dX12_init_264 fX12_9 (by rw [hv.1]; decide) rfl rfl rfl (hv.2.2.2.1 413 0 414 (Or.inr (by decide)) rfl) ?_
    refine kv_bipush dX12_init_267 14 kb_14 ?_
    refine kv_iconst dX12_init_269 1 ki_1 ?_
    refine kv_iast 1421 dX12_init_270 (by rw [hv.1]; decide) rfl (show (14 : Int32) = nI 14 from rfl) (by decide) rfl ?_
    have m1 : kMd _ kP14 _ _ := hv.si 414 14 1
    exact KV.room (K_271 _ m1) (by decide) (by decide)
  have K_254 : ∀ v, kMd 433 kP12 [(413, 31), (413, 30), (413, 29), (413, 28), (413, 23), (413, 21), (413, 20), (413, 18), (413, 17), (413, 16), (413, 15), (413, 14), (413, 13), (413, 12), (413, 5), (418, 2), (418, 1), (418, 0), (413, 4), (413, 3), (413, 1), (413, 0), (399, 3), (410, 3), (410, 0), (399, 2), (407, 3), (407, 0), (399, 1), (404, 3), (404, 0), (399, 0), (401, 3), (401, 0), (0, 8), (0, 7), (0, 6), (397, 0), (0, 5), (394, 0), (394, 2), (394, 1), (0, 4), (389, 1), (389, 0), (389, 6), (389, 5), (389, 4), (389, 2), (0, 3), (0, 2), (385, 0), (385, 2), (385, 1), (0, 1), (0, 0)] v → KV w l mX12_init 1 0 0 254 [some (.ref 413)] [] v (fun r v => r = none ∧ kMd 433 kP14 kLM v) := by
    intro v hv
    refine kv_aload_n dX12_init_254 rfl ?_
    refine kv_getR (b := 414) 32 dX12_init_255 fX12_9 (by rw [hv.1]; decide) rfl rfl rfl (hv.2.2.2.1 413 0 414 (Or.inr (by decide)) rfl) ?_
    refine kv_bipush dX12_init_258 12 kb_12 ?_
    refine kv_bipush dX12_init_260 30 kb_30 ?_
    refine kv_iast 1421 dX12_init_262 (by rw [hv.1]; decide) rfl (show (12 : Int32) = nI 12 from rfl) (by decide) rfl ?_
    have m1 : kMd _ kP13 _ _ := hv.si 414 12 30
    exact KV.room (K_263 _ m1) (by decide) (by decide)
  have K_245 : ∀ v, kMd 433 kP11 [(413, 31), (413, 30), (413, 29), (413, 28), (413, 23), (413, 21), (413, 20), (413, 18), (413, 17), (413, 16), (413, 15), (413, 14), (413, 13), (413, 12), (413, 5), (418, 2), (418, 1), (418, 0), (413, 4), (413, 3), (413, 1), (413, 0), (399, 3), (410, 3), (410, 0), (399, 2), (407, 3), (407, 0), (399, 1), (404, 3), (404, 0), (399, 0), (401, 3), (401, 0), (0, 8), (0, 7), (0, 6), (397, 0), (0, 5), (394, 0), (394, 2), (394, 1), (0, 4), (389, 1), (389, 0), (389, 6), (389, 5), (389, 4), (389, 2), (0, 3), (0, 2), (385, 0), (385, 2), (385, 1), (0, 1), (0, 0)] v → KV w l mX12_init 1 0 0 245 [some (.ref 413)] [] v (fun r v => r = none ∧ kMd 433 kP14 kLM v) := by
    intro v hv
    refine kv_aload_n dX12_init_245 rfl ?_
    refine kv_getR (b := 414) 32 dX12_init_246 fX12_9 (by rw [hv.1]; decide) rfl rfl rfl (hv.2.2.2.1 413 0 414 (Or.inr (by decide)) rfl) ?_
    refine kv_bipush dX12_init_249 11 kb_11 ?_
    refine kv_bipush dX12_init_251 20 kb_20 ?_
    refine kv_iast 1421 dX12_init_253 (by rw [hv.1]; decide) rfl (show (11 : Int32) = nI 11 from rfl) (by decide) rfl ?_
    have m1 : kMd _ kP12 _ _ := hv.si 414 11 20
    exact KV.room (K_254 _ m1) (by decide) (by decide)
  have K_236 : ∀ v, kMd 433 kP10 [(413, 31), (413, 30), (413, 29), (413, 28), (413, 23), (413, 21), (413, 20), (413, 18), (413, 17), (413, 16), (413, 15), (413, 14), (413, 13), (413, 12), (413, 5), (418, 2), (418, 1), (418, 0), (413, 4), (413, 3), (413, 1), (413, 0), (399, 3), (410, 3), (410, 0), (399, 2), (407, 3), (407, 0), (399, 1), (404, 3), (404, 0), (399, 0), (401, 3), (401, 0), (0, 8), (0, 7), (0, 6), (397, 0), (0, 5), (394, 0), (394, 2), (394, 1), (0, 4), (389, 1), (389, 0), (389, 6), (389, 5), (389, 4), (389, 2), (0, 3), (0, 2), (385, 0), (385, 2), (385, 1), (0, 1), (0, 0)] v → KV w l mX12_init 1 0 0 236 [some (.ref 413)] [] v (fun r v => r = none ∧ kMd 433 kP14 kLM v) := by
    intro v hv
    refine kv_aload_n dX12_init_236 rfl ?_
    refine kv_getR (b := 414) 32 dX12_init_237 fX12_9 (by rw [hv.1]; decide) rfl rfl rfl (hv.2.2.2.1 413 0 414 (Or.inr (by decide)) rfl) ?_
    refine kv_bipush dX12_init_240 10 kb_10 ?_
    refine kv_bipush dX12_init_242 70 kb_70 ?_
    refine kv_iast 1421 dX12_init_244 (by rw [hv.1]; decide) rfl (show (10 : Int32) = nI 10 from rfl) (by decide) rfl ?_
    have m1 : kMd _ kP11 _ _ := hv.si 414 10 70
    exact KV.room (K_245 _ m1) (by decide) (by decide)
  have K_227 : ∀ v, kMd 433 kP9 [(413, 31), (413, 30), (413, 29), (413, 28), (413, 23), (413, 21), (413, 20), (413, 18), (413, 17), (413, 16), (413, 15), (413, 14), (413, 13), (413, 12), (413, 5), (418, 2), (418, 1), (418, 0), (413, 4), (413, 3), (413, 1), (413, 0), (399, 3), (410, 3), (410, 0), (399, 2), (407, 3), (407, 0), (399, 1), (404, 3), (404, 0), (399, 0), (401, 3), (401, 0), (0, 8), (0, 7), (0, 6), (397, 0), (0, 5), (394, 0), (394, 2), (394, 1), (0, 4), (389, 1), (389, 0), (389, 6), (389, 5), (389, 4), (389, 2), (0, 3), (0, 2), (385, 0), (385, 2), (385, 1), (0, 1), (0, 0)] v → KV w l mX12_init 1 0 0 227 [some (.ref 413)] [] v (fun r v => r = none ∧ kMd 433 kP14 kLM v) := by
    intro v hv
    refine kv_aload_n dX12_init_227 rfl ?_
    refine kv_getR (b := 414) 32 dX12_init_228 fX12_9 (by rw [hv.1]; decide) rfl rfl rfl (hv.2.2.2.1 413 0 414 (Or.inr (by decide)) rfl) ?_
    refine kv_bipush dX12_init_231 9 kb_9 ?_
    refine kv_bipush dX12_init_233 15 kb_15 ?_
    refine kv_iast 1421 dX12_init_235 (by rw [hv.1]; decide) rfl (show (9 : Int32) = nI 9 from rfl) (by decide) rfl ?_
    have m1 : kMd _ kP10 _ _ := hv.si 414 9 15
    exact KV.room (K_236 _ m1) (by decide) (by decide)
  have K_218 : ∀ v, kMd 433 kP8 [(413, 31), (413, 30), (413, 29), (413, 28), (413, 23), (413, 21), (413, 20), (413, 18), (413, 17), (413, 16), (413, 15), (413, 14), (413, 13), (413, 12), (413, 5), (418, 2), (418, 1), (418, 0), (413, 4), (413, 3), (413, 1), (413, 0), (399, 3), (410, 3), (410, 0), (399, 2), (407, 3), (407, 0), (399, 1), (404, 3), (404, 0), (399, 0), (401, 3), (401, 0), (0, 8), (0, 7), (0, 6), (397, 0), (0, 5), (394, 0), (394, 2), (394, 1), (0, 4), (389, 1), (389, 0), (389, 6), (389, 5), (389, 4), (389, 2), (0, 3), (0, 2), (385, 0), (385, 2), (385, 1), (0, 1), (0, 0)] v → KV w l mX12_init 1 0 0 218 [some (.ref 413)] [] v (fun r v => r = none ∧ kMd 433 kP14 kLM v) := by
    intro v hv
    refine kv_aload_n dX12_init_218 rfl ?_
    refine kv_getR (b := 414) 32 dX12_init_219 fX12_9 (by rw [hv.1]; decide) rfl rfl rfl (hv.2.2.2.1 413 0 414 (Or.inr (by decide)) rfl) ?_
    refine kv_bipush dX12_init_222 8 kb_8 ?_
    refine kv_bipush dX12_init_224 10 kb_10 ?_
    refine kv_iast 1421 dX12_init_226 (by rw [hv.1]; decide) rfl (show (8 : Int32) = nI 8 from rfl) (by decide) rfl ?_
    have m1 : kMd _ kP9 _ _ := hv.si 414 8 10
    exact KV.room (K_227 _ m1) (by decide) (by decide)
  have K_210 : ∀ v, kMd 433 kP7 [(413, 31), (413, 30), (413, 29), (413, 28), (413, 23), (413, 21), (413, 20), (413, 18), (413, 17), (413, 16), (413, 15), (413, 14), (413, 13), (413, 12), (413, 5), (418, 2), (418, 1), (418, 0), (413, 4), (413, 3), (413, 1), (413, 0), (399, 3), (410, 3), (410, 0), (399, 2), (407, 3), (407, 0), (399, 1), (404, 3), (404, 0), (399, 0), (401, 3), (401, 0), (0, 8), (0, 7), (0, 6), (397, 0), (0, 5), (394, 0), (394, 2), (394, 1), (0, 4), (389, 1), (389, 0), (389, 6), (389, 5), (389, 4), (389, 2), (0, 3), (0, 2), (385, 0), (385, 2), (385, 1), (0, 1), (0, 0)] v → KV w l mX12_init 1 0 0 210 [some (.ref 413)] [] v (fun r v => r = none ∧ kMd 433 kP14 kLM v) := by
    intro v hv
    refine kv_aload_n dX12_init_210 rfl ?_
    refine kv_getR (b := 414) 32 dX12_init_211 fX12_9 (by rw [hv.1]; decide) rfl rfl rfl (hv.2.2.2.1 413 0 414 (Or.inr (by decide)) rfl) ?_
    refine kv_bipush dX12_init_214 7 kb_7 ?_
    refine kv_iconst dX12_init_216 1 ki_1 ?_
    refine kv_iast 1421 dX12_init_217 (by rw [hv.1]; decide) rfl (show (7 : Int32) = nI 7 from rfl) (by decide) rfl ?_
    have m1 : kMd _ kP8 _ _ := hv.si 414 7 1
    exact KV.room (K_218 _ m1) (by decide) (by decide)
  have K_202 : ∀ v, kMd 432 kP7 [(413, 30), (413, 29), (413, 28), (413, 23), (413, 21), (413, 20), (413, 18), (413, 17), (413, 16), (413, 15), (413, 14), (413, 13), (413, 12), (413, 5), (418, 2), (418, 1), (418, 0), (413, 4), (413, 3), (413, 1), (413, 0), (399, 3), (410, 3), (410, 0), (399, 2), (407, 3), (407, 0), (399, 1), (404, 3), (404, 0), (399, 0), (401, 3), (401, 0), (0, 8), (0, 7), (0, 6), (397, 0), (0, 5), (394, 0), (394, 2), (394, 1), (0, 4), (389, 1), (389, 0), (389, 6), (389, 5), (389, 4), (389, 2), (0, 3), (0, 2), (385, 0), (385, 2), (385, 1), (0, 1), (0, 0)] v → KV w l mX12_init 1 1 24 202 [some (.ref 413)] [] v (fun r v => r = none ∧ kMd 433 kP14 kLM v) := by
    intro v hv
    refine kv_aload_n dX12_init_202 rfl ?_
    refine kv_bipush dX12_init_203 24 kb_24 ?_
    refine kv_newIN hv.1 dX12_init_205 w_row_int rfl (by decide) (show (24 : Int32) = nI 24 from rfl) rfl (by decide) (by decide) ?_
    have m1 := hv.al 433 rfl (fun k => kP7_z k (by decide))
    refine kv_putR 32 dX12_init_207 fX12_74 (fun _ => ⟨rfl, rfl⟩) (by rw [m1.1]; decide) rfl rfl rfl (fun _ => rfl) (fun _ => rfl) ?_
    have m2 := m1.sr 413 31 432 rfl (by decide) rfl
    exact KV.room (K_210 _ m2) (by decide) (by decide)
  have K_194 : ∀ v, kMd 431 kP7 [(413, 29), (413, 28), (413, 23), (413, 21), (413, 20), (413, 18), (413, 17), (413, 16), (413, 15), (413, 14), (413, 13), (413, 12), (413, 5), (418, 2), (418, 1), (418, 0), (413, 4), (413, 3), (413, 1), (413, 0), (399, 3), (410, 3), (410, 0), (399, 2), (407, 3), (407, 0), (399, 1), (404, 3), (404, 0), (399, 0), (401, 3), (401, 0), (0, 8), (0, 7), (0, 6), (397, 0), (0, 5), (394, 0), (394, 2), (394, 1), (0, 4), (389, 1), (389, 0), (389, 6), (389, 5), (389, 4), (389, 2), (0, 3), (0, 2), (385, 0), (385, 2), (385, 1), (0, 1), (0, 0)] v → KV w l mX12_init 1 2 120 194 [some (.ref 413)] [] v (fun r v => r = none ∧ kMd 433 kP14 kLM v) := by
    intro v hv
    refine kv_aload_n dX12_init_194 rfl ?_
    refine kv_bipush dX12_init_195 96 kb_96 ?_
    refine kv_newIN hv.1 dX12_init_197 w_row_int rfl (by decide) (show (96 : Int32) = nI 96 from rfl) rfl (by decide) (by decide) ?_
    have m1 := hv.al 432 rfl (fun k => kP7_z k (by decide))
    refine kv_putR 32 dX12_init_199 fX12_71 (fun _ => ⟨rfl, rfl⟩) (by rw [m1.1]; decide) rfl rfl rfl (fun _ => rfl) (fun _ => rfl) ?_
    have m2 := m1.sr 413 30 431 rfl (by decide) rfl
    exact KV.room (K_202 _ m2) (by decide) (by decide)
  have K_187 : ∀ v, kMd 430 kP7 [(413, 28), (413, 23), (413, 21), (413, 20), (413, 18), (413, 17), (413, 16), (413, 15), (413, 14), (413, 13), (413, 12), (413, 5), (418, 2), (418, 1), (418, 0), (413, 4), (413, 3), (413, 1), (413, 0), (399, 3), (410, 3), (410, 0), (399, 2), (407, 3), (407, 0), (399, 1), (404, 3), (404, 0), (399, 0), (401, 3), (401, 0), (0, 8), (0, 7), (0, 6), (397, 0), (0, 5), (394, 0), (394, 2), (394, 1), (0, 4), (389, 1), (389, 0), (389, 6), (389, 5), (389, 4), (389, 2), (0, 3), (0, 2), (385, 0), (385, 2), (385, 1), (0, 1), (0, 0)] v → KV w l mX12_init 1 3 124 187 [some (.ref 413)] [] v (fun r v => r = none ∧ kMd 433 kP14 kLM v) := by
    intro v hv
    refine kv_aload_n dX12_init_187 rfl ?_
    refine kv_iconst dX12_init_188 4 ki_4 ?_
    refine kv_newIN hv.1 dX12_init_189 w_row_int rfl (by decide) (show (4 : Int32) = nI 4 from rfl) rfl (by decide) (by decide) ?_
    have m1 := hv.al 431 rfl (fun k => kP7_z k (by decide))
    refine kv_putR 32 dX12_init_191 fX12_68 (fun _ => ⟨rfl, rfl⟩) (by rw [m1.1]; decide) rfl rfl rfl (fun _ => rfl) (fun _ => rfl) ?_
    have m2 := m1.sr 413 29 430 rfl (by decide) rfl
    exact KV.room (K_194 _ m2) (by decide) (by decide)
  have K_180 : ∀ v, kMd 429 kP7 [(413, 23), (413, 21), (413, 20), (413, 18), (413, 17), (413, 16), (413, 15), (413, 14), (413, 13), (413, 12), (413, 5), (418, 2), (418, 1), (418, 0), (413, 4), (413, 3), (413, 1), (413, 0), (399, 3), (410, 3), (410, 0), (399, 2), (407, 3), (407, 0), (399, 1), (404, 3), (404, 0), (399, 0), (401, 3), (401, 0), (0, 8), (0, 7), (0, 6), (397, 0), (0, 5), (394, 0), (394, 2), (394, 1), (0, 4), (389, 1), (389, 0), (389, 6), (389, 5), (389, 4), (389, 2), (0, 3), (0, 2), (385, 0), (385, 2), (385, 1), (0, 1), (0, 0)] v → KV w l mX12_init 1 4 128 180 [some (.ref 413)] [] v (fun r v => r = none ∧ kMd 433 kP14 kLM v) := by
    intro v hv
    refine kv_aload_n dX12_init_180 rfl ?_
    refine kv_iconst dX12_init_181 4 ki_4 ?_
    refine kv_newIN hv.1 dX12_init_182 w_row_int rfl (by decide) (show (4 : Int32) = nI 4 from rfl) rfl (by decide) (by decide) ?_
    have m1 := hv.al 430 rfl (fun k => kP7_z k (by decide))
    refine kv_putR 32 dX12_init_184 fX12_65 (fun _ => ⟨rfl, rfl⟩) (by rw [m1.1]; decide) rfl rfl rfl (fun _ => rfl) (fun _ => rfl) ?_
    have m2 := m1.sr 413 28 429 rfl (by decide) rfl
    exact KV.room (K_187 _ m2) (by decide) (by decide)
  have K_172 : ∀ v, kMd 428 kP7 [(413, 21), (413, 20), (413, 18), (413, 17), (413, 16), (413, 15), (413, 14), (413, 13), (413, 12), (413, 5), (418, 2), (418, 1), (418, 0), (413, 4), (413, 3), (413, 1), (413, 0), (399, 3), (410, 3), (410, 0), (399, 2), (407, 3), (407, 0), (399, 1), (404, 3), (404, 0), (399, 0), (401, 3), (401, 0), (0, 8), (0, 7), (0, 6), (397, 0), (0, 5), (394, 0), (394, 2), (394, 1), (0, 4), (389, 1), (389, 0), (389, 6), (389, 5), (389, 4), (389, 2), (0, 3), (0, 2), (385, 0), (385, 2), (385, 1), (0, 1), (0, 0)] v → KV w l mX12_init 1 5 158 172 [some (.ref 413)] [] v (fun r v => r = none ∧ kMd 433 kP14 kLM v) := by
    intro v hv
    refine kv_aload_n dX12_init_172 rfl ?_
    refine kv_bipush dX12_init_173 30 kb_30 ?_
    refine kv_newIN hv.1 dX12_init_175 w_row_int rfl (by decide) (show (30 : Int32) = nI 30 from rfl) rfl (by decide) (by decide) ?_
    have m1 := hv.al 429 rfl (fun k => kP7_z k (by decide))
    refine kv_putR 32 dX12_init_177 fX12_62 (fun _ => ⟨rfl, rfl⟩) (by rw [m1.1]; decide) rfl rfl rfl (fun _ => rfl) (fun _ => rfl) ?_
    have m2 := m1.sr 413 23 428 rfl (by decide) rfl
    exact KV.room (K_180 _ m2) (by decide) (by decide)
  have K_164 : ∀ v, kMd 427 kP7 [(413, 20), (413, 18), (413, 17), (413, 16), (413, 15), (413, 14), (413, 13), (413, 12), (413, 5), (418, 2), (418, 1), (418, 0), (413, 4), (413, 3), (413, 1), (413, 0), (399, 3), (410, 3), (410, 0), (399, 2), (407, 3), (407, 0), (399, 1), (404, 3), (404, 0), (399, 0), (401, 3), (401, 0), (0, 8), (0, 7), (0, 6), (397, 0), (0, 5), (394, 0), (394, 2), (394, 1), (0, 4), (389, 1), (389, 0), (389, 6), (389, 5), (389, 4), (389, 2), (0, 3), (0, 2), (385, 0), (385, 2), (385, 1), (0, 1), (0, 0)] v → KV w l mX12_init 1 6 164 164 [some (.ref 413)] [] v (fun r v => r = none ∧ kMd 433 kP14 kLM v) := by
    intro v hv
    refine kv_aload_n dX12_init_164 rfl ?_
    refine kv_bipush dX12_init_165 6 kb_6 ?_
    refine kv_newIN hv.1 dX12_init_167 w_row_int rfl (by decide) (show (6 : Int32) = nI 6 from rfl) rfl (by decide) (by decide) ?_
    have m1 := hv.al 428 rfl (fun k => kP7_z k (by decide))
    refine kv_putR 32 dX12_init_169 fX12_59 (fun _ => ⟨rfl, rfl⟩) (by rw [m1.1]; decide) rfl rfl rfl (fun _ => rfl) (fun _ => rfl) ?_
    have m2 := m1.sr 413 21 427 rfl (by decide) rfl
    exact KV.room (K_172 _ m2) (by decide) (by decide)
  have K_156 : ∀ v, kMd 426 kP7 [(413, 18), (413, 17), (413, 16), (413, 15), (413, 14), (413, 13), (413, 12), (413, 5), (418, 2), (418, 1), (418, 0), (413, 4), (413, 3), (413, 1), (413, 0), (399, 3), (410, 3), (410, 0), (399, 2), (407, 3), (407, 0), (399, 1), (404, 3), (404, 0), (399, 0), (401, 3), (401, 0), (0, 8), (0, 7), (0, 6), (397, 0), (0, 5), (394, 0), (394, 2), (394, 1), (0, 4), (389, 1), (389, 0), (389, 6), (389, 5), (389, 4), (389, 2), (0, 3), (0, 2), (385, 0), (385, 2), (385, 1), (0, 1), (0, 0)] v → KV w l mX12_init 1 7 170 156 [some (.ref 413)] [] v (fun r v => r = none ∧ kMd 433 kP14 kLM v) := by
    intro v hv
    refine kv_aload_n dX12_init_156 rfl ?_
    refine kv_bipush dX12_init_157 6 kb_6 ?_
    refine kv_newIN hv.1 dX12_init_159 w_row_int rfl (by decide) (show (6 : Int32) = nI 6 from rfl) rfl (by decide) (by decide) ?_
    have m1 := hv.al 427 rfl (fun k => kP7_z k (by decide))
    refine kv_putR 32 dX12_init_161 fX12_56 (fun _ => ⟨rfl, rfl⟩) (by rw [m1.1]; decide) rfl rfl rfl (fun _ => rfl) (fun _ => rfl) ?_
    have m2 := m1.sr 413 20 426 rfl (by decide) rfl
    exact KV.room (K_164 _ m2) (by decide) (by decide)
  have K_148 : ∀ v, kMd 425 kP7 [(413, 17), (413, 16), (413, 15), (413, 14), (413, 13), (413, 12), (413, 5), (418, 2), (418, 1), (418, 0), (413, 4), (413, 3), (413, 1), (413, 0), (399, 3), (410, 3), (410, 0), (399, 2), (407, 3), (407, 0), (399, 1), (404, 3), (404, 0), (399, 0), (401, 3), (401, 0), (0, 8), (0, 7), (0, 6), (397, 0), (0, 5), (394, 0), (394, 2), (394, 1), (0, 4), (389, 1), (389, 0), (389, 6), (389, 5), (389, 4), (389, 2), (0, 3), (0, 2), (385, 0), (385, 2), (385, 1), (0, 1), (0, 0)] v → KV w l mX12_init 1 8 190 148 [some (.ref 413)] [] v (fun r v => r = none ∧ kMd 433 kP14 kLM v) := by
    intro v hv
    refine kv_aload_n dX12_init_148 rfl ?_
    refine kv_bipush dX12_init_149 20 kb_20 ?_
    refine kv_newIN hv.1 dX12_init_151 w_row_int rfl (by decide) (show (20 : Int32) = nI 20 from rfl) rfl (by decide) (by decide) ?_
    have m1 := hv.al 426 rfl (fun k => kP7_z k (by decide))
    refine kv_putR 32 dX12_init_153 fX12_53 (fun _ => ⟨rfl, rfl⟩) (by rw [m1.1]; decide) rfl rfl rfl (fun _ => rfl) (fun _ => rfl) ?_
    have m2 := m1.sr 413 18 425 rfl (by decide) rfl
    exact KV.room (K_156 _ m2) (by decide) (by decide)
  have K_140 : ∀ v, kMd 424 kP7 [(413, 16), (413, 15), (413, 14), (413, 13), (413, 12), (413, 5), (418, 2), (418, 1), (418, 0), (413, 4), (413, 3), (413, 1), (413, 0), (399, 3), (410, 3), (410, 0), (399, 2), (407, 3), (407, 0), (399, 1), (404, 3), (404, 0), (399, 0), (401, 3), (401, 0), (0, 8), (0, 7), (0, 6), (397, 0), (0, 5), (394, 0), (394, 2), (394, 1), (0, 4), (389, 1), (389, 0), (389, 6), (389, 5), (389, 4), (389, 2), (0, 3), (0, 2), (385, 0), (385, 2), (385, 1), (0, 1), (0, 0)] v → KV w l mX12_init 1 9 210 140 [some (.ref 413)] [] v (fun r v => r = none ∧ kMd 433 kP14 kLM v) := by
    intro v hv
    refine kv_aload_n dX12_init_140 rfl ?_
    refine kv_bipush dX12_init_141 20 kb_20 ?_
    refine kv_newIN hv.1 dX12_init_143 w_row_int rfl (by decide) (show (20 : Int32) = nI 20 from rfl) rfl (by decide) (by decide) ?_
    have m1 := hv.al 425 rfl (fun k => kP7_z k (by decide))
    refine kv_putR 32 dX12_init_145 fX12_50 (fun _ => ⟨rfl, rfl⟩) (by rw [m1.1]; decide) rfl rfl rfl (fun _ => rfl) (fun _ => rfl) ?_
    have m2 := m1.sr 413 17 424 rfl (by decide) rfl
    exact KV.room (K_148 _ m2) (by decide) (by decide)
  have K_131 : ∀ v, kMd 423 kP7 [(413, 15), (413, 14), (413, 13), (413, 12), (413, 5), (418, 2), (418, 1), (418, 0), (413, 4), (413, 3), (413, 1), (413, 0), (399, 3), (410, 3), (410, 0), (399, 2), (407, 3), (407, 0), (399, 1), (404, 3), (404, 0), (399, 0), (401, 3), (401, 0), (0, 8), (0, 7), (0, 6), (397, 0), (0, 5), (394, 0), (394, 2), (394, 1), (0, 4), (389, 1), (389, 0), (389, 6), (389, 5), (389, 4), (389, 2), (0, 3), (0, 2), (385, 0), (385, 2), (385, 1), (0, 1), (0, 0)] v → KV w l mX12_init 1 10 2258 131 [some (.ref 413)] [] v (fun r v => r = none ∧ kMd 433 kP14 kLM v) := by
    intro v hv
    refine kv_aload_n dX12_init_131 rfl ?_
    refine kv_sipush dX12_init_132 2048 kz_2048 ?_
    refine kv_newIN hv.1 dX12_init_135 w_row_int rfl (by decide) (show (2048 : Int32) = nI 2048 from rfl) rfl (by decide) (by decide) ?_
    have m1 := hv.al 424 rfl (fun k => kP7_z k (by decide))
    refine kv_putR 32 dX12_init_137 fX12_47 (fun _ => ⟨rfl, rfl⟩) (by rw [m1.1]; decide) rfl rfl rfl (fun _ => rfl) (fun _ => rfl) ?_
    have m2 := m1.sr 413 16 423 rfl (by decide) rfl
    exact KV.room (K_140 _ m2) (by decide) (by decide)
  have K_122 : ∀ v, kMd 422 kP7 [(413, 14), (413, 13), (413, 12), (413, 5), (418, 2), (418, 1), (418, 0), (413, 4), (413, 3), (413, 1), (413, 0), (399, 3), (410, 3), (410, 0), (399, 2), (407, 3), (407, 0), (399, 1), (404, 3), (404, 0), (399, 0), (401, 3), (401, 0), (0, 8), (0, 7), (0, 6), (397, 0), (0, 5), (394, 0), (394, 2), (394, 1), (0, 4), (389, 1), (389, 0), (389, 6), (389, 5), (389, 4), (389, 2), (0, 3), (0, 2), (385, 0), (385, 2), (385, 1), (0, 1), (0, 0)] v → KV w l mX12_init 1 11 4306 122 [some (.ref 413)] [] v (fun r v => r = none ∧ kMd 433 kP14 kLM v) := by
    intro v hv
    refine kv_aload_n dX12_init_122 rfl ?_
    refine kv_sipush dX12_init_123 2048 kz_2048 ?_
    refine kv_newLN hv.1 dX12_init_126 w_row_long rfl (by decide) (show (2048 : Int32) = nI 2048 from rfl) rfl (by decide) (by decide) ?_
    have m1 := hv.al 423 rfl (fun k => kP7_z k (by decide))
    refine kv_putR 32 dX12_init_128 fX12_44 (fun _ => ⟨rfl, rfl⟩) (by rw [m1.1]; decide) rfl rfl rfl (fun _ => rfl) (fun _ => rfl) ?_
    have m2 := m1.sr 413 15 422 rfl (by decide) rfl
    exact KV.room (K_131 _ m2) (by decide) (by decide)
  have K_114 : ∀ v, kMd 421 kP7 [(413, 13), (413, 12), (413, 5), (418, 2), (418, 1), (418, 0), (413, 4), (413, 3), (413, 1), (413, 0), (399, 3), (410, 3), (410, 0), (399, 2), (407, 3), (407, 0), (399, 1), (404, 3), (404, 0), (399, 0), (401, 3), (401, 0), (0, 8), (0, 7), (0, 6), (397, 0), (0, 5), (394, 0), (394, 2), (394, 1), (0, 4), (389, 1), (389, 0), (389, 6), (389, 5), (389, 4), (389, 2), (0, 3), (0, 2), (385, 0), (385, 2), (385, 1), (0, 1), (0, 0)] v → KV w l mX12_init 1 12 4317 114 [some (.ref 413)] [] v (fun r v => r = none ∧ kMd 433 kP14 kLM v) := by
    intro v hv
    refine kv_aload_n dX12_init_114 rfl ?_
    refine kv_bipush dX12_init_115 11 kb_11 ?_
    refine kv_newLN hv.1 dX12_init_117 w_row_long rfl (by decide) (show (11 : Int32) = nI 11 from rfl) rfl (by decide) (by decide) ?_
    have m1 := hv.al 422 rfl (fun k => kP7_z k (by decide))
    refine kv_putR 32 dX12_init_119 fX12_40 (fun _ => ⟨rfl, rfl⟩) (by rw [m1.1]; decide) rfl rfl rfl (fun _ => rfl) (fun _ => rfl) ?_
    have m2 := m1.sr 413 14 421 rfl (by decide) rfl
    exact KV.room (K_122 _ m2) (by decide) (by decide)
  have K_106 : ∀ v, kMd 420 kP7 [(413, 12), (413, 5), (418, 2), (418, 1), (418, 0), (413, 4), (413, 3), (413, 1), (413, 0), (399, 3), (410, 3), (410, 0), (399, 2), (407, 3), (407, 0), (399, 1), (404, 3), (404, 0), (399, 0), (401, 3), (401, 0), (0, 8), (0, 7), (0, 6), (397, 0), (0, 5), (394, 0), (394, 2), (394, 1), (0, 4), (389, 1), (389, 0), (389, 6), (389, 5), (389, 4), (389, 2), (0, 3), (0, 2), (385, 0), (385, 2), (385, 1), (0, 1), (0, 0)] v → KV w l mX12_init 1 13 4378 106 [some (.ref 413)] [] v (fun r v => r = none ∧ kMd 433 kP14 kLM v) := by
    intro v hv
    refine kv_aload_n dX12_init_106 rfl ?_
    refine kv_bipush dX12_init_107 61 kb_61 ?_
    refine kv_newIN hv.1 dX12_init_109 w_row_int rfl (by decide) (show (61 : Int32) = nI 61 from rfl) rfl (by decide) (by decide) ?_
    have m1 := hv.al 421 rfl (fun k => kP7_z k (by decide))
    refine kv_putR 32 dX12_init_111 fX12_37 (fun _ => ⟨rfl, rfl⟩) (by rw [m1.1]; decide) rfl rfl rfl (fun _ => rfl) (fun _ => rfl) ?_
    have m2 := m1.sr 413 13 420 rfl (by decide) rfl
    exact KV.room (K_114 _ m2) (by decide) (by decide)
  have K_98 : ∀ v, kMd 419 kP7 [(413, 5), (418, 2), (418, 1), (418, 0), (413, 4), (413, 3), (413, 1), (413, 0), (399, 3), (410, 3), (410, 0), (399, 2), (407, 3), (407, 0), (399, 1), (404, 3), (404, 0), (399, 0), (401, 3), (401, 0), (0, 8), (0, 7), (0, 6), (397, 0), (0, 5), (394, 0), (394, 2), (394, 1), (0, 4), (389, 1), (389, 0), (389, 6), (389, 5), (389, 4), (389, 2), (0, 3), (0, 2), (385, 0), (385, 2), (385, 1), (0, 1), (0, 0)] v → KV w l mX12_init 1 14 4439 98 [some (.ref 413)] [] v (fun r v => r = none ∧ kMd 433 kP14 kLM v) := by
    intro v hv
    refine kv_aload_n dX12_init_98 rfl ?_
    refine kv_bipush dX12_init_99 61 kb_61 ?_
    refine kv_newIN hv.1 dX12_init_101 w_row_int rfl (by decide) (show (61 : Int32) = nI 61 from rfl) rfl (by decide) (by decide) ?_
    have m1 := hv.al 420 rfl (fun k => kP7_z k (by decide))
    refine kv_putR 32 dX12_init_103 fX12_34 (fun _ => ⟨rfl, rfl⟩) (by rw [m1.1]; decide) rfl rfl rfl (fun _ => rfl) (fun _ => rfl) ?_
    have m2 := m1.sr 413 12 419 rfl (by decide) rfl
    exact KV.room (K_106 _ m2) (by decide) (by decide)
  have K_75 : ∀ v, kMd 418 kP7 [(413, 4), (413, 3), (413, 1), (413, 0), (399, 3), (410, 3), (410, 0), (399, 2), (407, 3), (407, 0), (399, 1), (404, 3), (404, 0), (399, 0), (401, 3), (401, 0), (0, 8), (0, 7), (0, 6), (397, 0), (0, 5), (394, 0), (394, 2), (394, 1), (0, 4), (389, 1), (389, 0), (389, 6), (389, 5), (389, 4), (389, 2), (0, 3), (0, 2), (385, 0), (385, 2), (385, 1), (0, 1), (0, 0)] v → KV w l mX12_init 1 15 4442 75 [some (.ref 413)] [] v (fun r v => r = none ∧ kMd 433 kP14 kLM v) := by
    intro v hv
    refine kv_aload_n dX12_init_75 rfl ?_
    refine kv_iconst dX12_init_76 3 ki_3 ?_
    refine kv_newAN (t := 5) hv.1 dX12_init_77 rfl cX12_22 (by decide +kernel) rfl (by decide) (show (3 : Int32) = nI 3 from rfl) rfl (by decide) (by decide) ?_
    have m1 := hv.al 419 rfl (fun k => kP7_z k (by decide))
    refine kv_dup dX12_init_80 rfl ?_
    refine kv_iconst dX12_init_81 0 ki_0 ?_
    refine kv_ldcS (i := 0) dX12_init_82 rfl rfl rfl ?_
    refine kv_aastS (i0 := 0) dX12_init_84 (by rw [m1.1]; decide) rfl (show (0 : Int32) = nI 0 from rfl) (by decide) rfl (by decide) ?_
    have m2 := m1.sr 418 0 10100 rfl (by decide) rfl
    refine kv_dup dX12_init_85 rfl ?_
    refine kv_iconst dX12_init_86 1 ki_1 ?_
    refine kv_ldcS (i := 1) dX12_init_87 rfl rfl rfl ?_
    refine kv_aastS (i0 := 1) dX12_init_89 (by rw [m2.1]; decide) rfl (show (1 : Int32) = nI 1 from rfl) (by decide) rfl (by decide) ?_
    have m3 := m2.sr 418 1 10101 rfl (by decide) rfl
    refine kv_dup dX12_init_90 rfl ?_
    refine kv_iconst dX12_init_91 2 ki_2 ?_
    refine kv_ldcS (i := 2) dX12_init_92 rfl rfl rfl ?_
    refine kv_aastS (i0 := 2) dX12_init_94 (by rw [m3.1]; decide) rfl (show (2 : Int32) = nI 2 from rfl) (by decide) rfl (by decide) ?_
    have m4 := m3.sr 418 2 10102 rfl (by decide) rfl
    refine kv_putR 32 dX12_init_95 fX12_30 (fun _ => ⟨rfl, rfl⟩) (by rw [m4.1]; decide) rfl rfl rfl (fun _ => rfl) (fun _ => rfl) ?_
    have m5 := m4.sr 413 5 418 rfl (by decide) rfl
    exact KV.room (K_98 _ m5) (by decide) (by decide)
  have K_30 : ∀ v, kMd 417 kP0 [(413, 3), (413, 1), (413, 0), (399, 3), (410, 3), (410, 0), (399, 2), (407, 3), (407, 0), (399, 1), (404, 3), (404, 0), (399, 0), (401, 3), (401, 0), (0, 8), (0, 7), (0, 6), (397, 0), (0, 5), (394, 0), (394, 2), (394, 1), (0, 4), (389, 1), (389, 0), (389, 6), (389, 5), (389, 4), (389, 2), (0, 3), (0, 2), (385, 0), (385, 2), (385, 1), (0, 1), (0, 0)] v → KV w l mX12_init 1 16 4449 30 [some (.ref 413)] [] v (fun r v => r = none ∧ kMd 433 kP14 kLM v) := by
    intro v hv
    refine kv_aload_n dX12_init_30 rfl ?_
    refine kv_bipush dX12_init_31 7 kb_7 ?_
    refine kv_newIN hv.1 dX12_init_33 w_row_int rfl (by decide) (show (7 : Int32) = nI 7 from rfl) rfl (by decide) (by decide) ?_
    have m1 := hv.al 418 rfl (kP0_z (by decide))
    refine kv_dup dX12_init_35 rfl ?_
    refine kv_iconst dX12_init_36 0 ki_0 ?_
    refine kv_bipush dX12_init_37 99 kb_99 ?_
    refine kv_iast 7 dX12_init_39 (by rw [m1.1]; decide) rfl (show (0 : Int32) = nI 0 from rfl) (by decide) rfl ?_
    have m2 : kMd _ kP1 _ _ := m1.si 417 0 99
    refine kv_dup dX12_init_40 rfl ?_
    refine kv_iconst dX12_init_41 1 ki_1 ?_
    refine kv_bipush dX12_init_42 50 kb_50 ?_
    refine kv_iast 7 dX12_init_44 (by rw [m2.1]; decide) rfl (show (1 : Int32) = nI 1 from rfl) (by decide) rfl ?_
    have m3 : kMd _ kP2 _ _ := m2.si 417 1 50
    refine kv_dup dX12_init_45 rfl ?_
    refine kv_iconst dX12_init_46 2 ki_2 ?_
    refine kv_bipush dX12_init_47 100 kb_100 ?_
    refine kv_iast 7 dX12_init_49 (by rw [m3.1]; decide) rfl (show (2 : Int32) = nI 2 from rfl) (by decide) rfl ?_
    have m4 : kMd _ kP3 _ _ := m3.si 417 2 100
    refine kv_dup dX12_init_50 rfl ?_
    refine kv_iconst dX12_init_51 3 ki_3 ?_
    refine kv_bipush dX12_init_52 100 kb_100 ?_
    refine kv_iast 7 dX12_init_54 (by rw [m4.1]; decide) rfl (show (3 : Int32) = nI 3 from rfl) (by decide) rfl ?_
    have m5 : kMd _ kP4 _ _ := m4.si 417 3 100
    refine kv_dup dX12_init_55 rfl ?_
    refine kv_iconst dX12_init_56 4 ki_4 ?_
    refine kv_bipush dX12_init_57 99 kb_99 ?_
    refine kv_iast 7 dX12_init_59 (by rw [m5.1]; decide) rfl (show (4 : Int32) = nI 4 from rfl) (by decide) rfl ?_
    have m6 : kMd _ kP5 _ _ := m5.si 417 4 99
    refine kv_dup dX12_init_60 rfl ?_
    refine kv_iconst dX12_init_61 5 ki_5 ?_
    refine kv_sipush dX12_init_62 9999 kz_9999 ?_
    refine kv_iast 7 dX12_init_65 (by rw [m6.1]; decide) rfl (show (5 : Int32) = nI 5 from rfl) (by decide) rfl ?_
    have m7 : kMd _ kP6 _ _ := m6.si 417 5 9999
    refine kv_dup dX12_init_66 rfl ?_
    refine kv_bipush dX12_init_67 6 kb_6 ?_
    refine kv_bipush dX12_init_69 50 kb_50 ?_
    refine kv_iast 7 dX12_init_71 (by rw [m7.1]; decide) rfl (show (6 : Int32) = nI 6 from rfl) (by decide) rfl ?_
    have m8 : kMd _ kP7 _ _ := m7.si 417 6 50
    refine kv_putR 32 dX12_init_72 fX12_19 (fun _ => ⟨rfl, rfl⟩) (by rw [m8.1]; decide) rfl rfl rfl (fun _ => rfl) (fun _ => rfl) ?_
    have m9 := m8.sr 413 4 417 rfl (by decide) rfl
    exact KV.room (K_75 _ m9) (by decide) (by decide)
  have K_22 : ∀ v, kMd 416 kP0 [(413, 1), (413, 0), (399, 3), (410, 3), (410, 0), (399, 2), (407, 3), (407, 0), (399, 1), (404, 3), (404, 0), (399, 0), (401, 3), (401, 0), (0, 8), (0, 7), (0, 6), (397, 0), (0, 5), (394, 0), (394, 2), (394, 1), (0, 4), (389, 1), (389, 0), (389, 6), (389, 5), (389, 4), (389, 2), (0, 3), (0, 2), (385, 0), (385, 2), (385, 1), (0, 1), (0, 0)] v → KV w l mX12_init 1 17 4456 22 [some (.ref 413)] [] v (fun r v => r = none ∧ kMd 433 kP14 kLM v) := by
    intro v hv
    refine kv_aload_n dX12_init_22 rfl ?_
    refine kv_bipush dX12_init_23 7 kb_7 ?_
    refine kv_newIN hv.1 dX12_init_25 w_row_int rfl (by decide) (show (7 : Int32) = nI 7 from rfl) rfl (by decide) (by decide) ?_
    have m1 := hv.al 417 rfl (kP0_z (by decide))
    refine kv_putR 32 dX12_init_27 fX12_16 (fun _ => ⟨rfl, rfl⟩) (by rw [m1.1]; decide) rfl rfl rfl (fun _ => rfl) (fun _ => rfl) ?_
    have m2 := m1.sr 413 3 416 rfl (by decide) rfl
    exact KV.room (K_30 _ m2) (by decide) (by decide)
  have K_13 : ∀ v, kMd 415 kP0 [(413, 0), (399, 3), (410, 3), (410, 0), (399, 2), (407, 3), (407, 0), (399, 1), (404, 3), (404, 0), (399, 0), (401, 3), (401, 0), (0, 8), (0, 7), (0, 6), (397, 0), (0, 5), (394, 0), (394, 2), (394, 1), (0, 4), (389, 1), (389, 0), (389, 6), (389, 5), (389, 4), (389, 2), (0, 3), (0, 2), (385, 0), (385, 2), (385, 1), (0, 1), (0, 0)] v → KV w l mX12_init 1 18 5877 13 [some (.ref 413)] [] v (fun r v => r = none ∧ kMd 433 kP14 kLM v) := by
    intro v hv
    refine kv_aload_n dX12_init_13 rfl ?_
    refine kv_sipush dX12_init_14 1421 kz_1421 ?_
    refine kv_newIN hv.1 dX12_init_17 w_row_int rfl (by decide) (show (1421 : Int32) = nI 1421 from rfl) rfl (by decide) (by decide) ?_
    have m1 := hv.al 416 rfl (kP0_z (by decide))
    refine kv_putR 32 dX12_init_19 fX12_13 (fun _ => ⟨rfl, rfl⟩) (by rw [m1.1]; decide) rfl rfl rfl (fun _ => rfl) (fun _ => rfl) ?_
    have m2 := m1.sr 413 1 415 rfl (by decide) rfl
    exact KV.room (K_22 _ m2) (by decide) (by decide)
  have K_4 : ∀ v, kMd 414 kP0 [(399, 3), (410, 3), (410, 0), (399, 2), (407, 3), (407, 0), (399, 1), (404, 3), (404, 0), (399, 0), (401, 3), (401, 0), (0, 8), (0, 7), (0, 6), (397, 0), (0, 5), (394, 0), (394, 2), (394, 1), (0, 4), (389, 1), (389, 0), (389, 6), (389, 5), (389, 4), (389, 2), (0, 3), (0, 2), (385, 0), (385, 2), (385, 1), (0, 1), (0, 0)] v → KV w l mX12_init 1 19 7298 4 [some (.ref 413)] [] v (fun r v => r = none ∧ kMd 433 kP14 kLM v) := by
    intro v hv
    refine kv_aload_n dX12_init_4 rfl ?_
    refine kv_sipush dX12_init_5 1421 kz_1421 ?_
    refine kv_newIN hv.1 dX12_init_8 w_row_int rfl (by decide) (show (1421 : Int32) = nI 1421 from rfl) rfl (by decide) (by decide) ?_
    have m1 := hv.al 415 rfl (kP0_z (by decide))
    refine kv_putR 32 dX12_init_10 fX12_9 (fun _ => ⟨rfl, rfl⟩) (by rw [m1.1]; decide) rfl rfl rfl (fun _ => rfl) (fun _ => rfl) ?_
    have m2 := m1.sr 413 0 414 rfl (by decide) rfl
    exact KV.room (K_13 _ m2) (by decide) (by decide)
  have K_0 : ∀ v, kMd 414 kP0 [(399, 3), (410, 3), (410, 0), (399, 2), (407, 3), (407, 0), (399, 1), (404, 3), (404, 0), (399, 0), (401, 3), (401, 0), (0, 8), (0, 7), (0, 6), (397, 0), (0, 5), (394, 0), (394, 2), (394, 1), (0, 4), (389, 1), (389, 0), (389, 6), (389, 5), (389, 4), (389, 2), (0, 3), (0, 2), (385, 0), (385, 2), (385, 1), (0, 1), (0, 0)] v → KV w l mX12_init 1 19 7298 0 [some (.ref 413)] [] v (fun r v => r = none ∧ kMd 433 kP14 kLM v) := by
    intro v hv
    refine kv_aload_n dX12_init_0 rfl ?_
    refine kv_objI dX12_init_1 lX12_3 w_obj rfl (by decide) ?_
    exact KV.room (K_4 _ hv) (by decide) (by decide)
  refine KC.of (ls := [_]) rfl rfl (Nat.le_of_ble_eq_true rfl) ?_
  exact K_0 _ h0
/-- the first state -/
def kA0 : KA := fun i k => if i = 0 then kP14 414 k else 0
theorem kA0_n {i : Nat} (h : i < 7) : kN (kA0 0) i = 0 := by
  have : ∀ j, j < 7 → kN (kA0 0) j = 0 := by decide +kernel
  exact this i h
theorem kRfF {T : List (Nat × List (Option Nat))} {a k c : Nat} (h : kv_rfF T a k = some c) : ∃ q ∈ T, q.1 = a ∧ q.2[k]? = some (some c) := by
  induction T with
  | nil => cases h
  | cons q t ih =>
    obtain ⟨b, r⟩ := q
    unfold kv_rfF at h
    by_cases e : a = b
    · rw [if_pos e, List.getD_eq_getElem?_getD] at h
      refine ⟨(b, r), List.mem_cons_self, e.symm, ?_⟩
      show r[k]? = some (some c)
      cases hr : r[k]? with
      | none => rw [hr] at h; cases h
      | some x => rw [hr] at h; exact congrArg some h
    · rw [if_neg e] at h
      obtain ⟨q, h1, h2⟩ := ih h
      exact ⟨q, List.mem_cons_of_mem _ h1, h2⟩
theorem kLM_all : ∀ q ∈ kv_rfL, ∀ k, k < q.2.length → q.2[k]? = some none ∨ (q.1, k) ∈ kLM := by decide +kernel
theorem kMd.wd {v : KMem} (h : kMd 433 kP14 kLM v) : kWd v := by
  obtain ⟨h1, h2, h3, h4, h5, h6⟩ := h
  refine ⟨h1, fun a k b hb => h4 a k b ?_ hb, h3 392 (by decide) 0, h3 422 (by decide) 0⟩
  by_cases g : 1 ≤ a ∧ a < 385
  · exact Or.inl g
  · refine Or.inr ?_
    have hf : kv_rfF kv_rfL a k = some b := by
      unfold kv_rf at hb
      by_cases e : a = 0
      · rw [if_pos e] at hb; exact hb
      · rw [if_neg e, if_neg (by omega), if_neg (by omega)] at hb; exact hb
    obtain ⟨q, g1, g2, g3⟩ := kRfF hf
    rcases kLM_all q g1 k (List.getElem?_eq_some_iff.mp g3).1 with e | e
    · rw [e] at g3; cases g3
    · rw [← g2]; exact e
theorem kGI_0 : kGI (kA0 0) := by
  refine ⟨fun k n hk => ?_, fun k n hk => ?_, fun z hz t n ht => ?_, fun c hc => ?_, fun c hc => ?_, fun c hc => ?_, fun c hc => ?_, fun c hc => ?_, fun c hc => ?_⟩
  · have hl : k < 7 := (List.getElem?_eq_some_iff.mp hk).1
    refine ⟨0, Nat.zero_le _, ?_⟩
    have : ∀ j, j < 7 → kA0 0 j = nI 0 := by decide +kernel
    exact this k hl
  · have hl : k < 7 := (List.getElem?_eq_some_iff.mp hk).1
    have : ∀ j, j < 7 → (kA0 0 (8 + j)).toNatClampNeg ≤ kTop.getD j 0 ∧ kA0 0 (8 + j) = nI (kA0 0 (8 + j)).toNatClampNeg := by decide +kernel
    obtain ⟨a1, a2⟩ := this k hl
    rw [List.getD_eq_getElem?_getD, hk] at a1
    exact ⟨_, a1, a2⟩
  · have hl : t < 3 := (List.getElem?_eq_some_iff.mp ht).1
    refine ⟨0, Nat.zero_le _, ?_⟩
    have : ∀ y, y < 8 → ∀ j, j < 3 → kA0 0 (16 + 3 * y + j) = nI 0 := by decide +kernel
    exact this z hz t hl
  all_goals (rw [kA0_n (by decide)] at hc; omega)
theorem kOk_0 : kOk kA0 := by
  refine ⟨kGI_0, fun h => absurd rfl h, ⟨0, Nat.zero_le _, rfl⟩, fun i hi => ⟨⟨0, Nat.zero_le _, rfl⟩, Or.inl rfl⟩⟩
theorem kBoth_0 {v : KMem} (h : kMd 433 kP14 kLM v) : kBoth kA0 v := by
  have hw := h.wd
  obtain ⟨h1, h2, h3, h4, h5, h6⟩ := h
  have hz : ∀ b, b < 433 → 418 ≤ b → ∀ k, v.2.1 b k = 0 := fun b hb g k => by rw [h2 b hb k]; exact kP14_z k g
  refine ⟨hw, ⟨?_, ⟨fun g => absurd rfl g, ?_⟩, ?_, fun k hk => ?_, ?_, fun k hk => ?_, fun i hi => ⟨?_, ?_, fun k hk => ?_⟩⟩, ⟨?_, ?_, ?_, ?_, ?_, ?_, ?_, ?_, ?_, fun k hk => ?_, ?_⟩, kOk_0⟩
  · refine ⟨?_, fun k hk => ?_, fun z hz t ht => ?_, fun c hc => ?_, fun c hc => ?_, fun c hc => ?_, fun c hc => ?_, fun c hc => ?_, fun c hc => ?_, fun c hc => ?_⟩
    · unfold kXCnt
      simp only [h2 1 (by decide)]
      decide +kernel
    · rw [h2 10 (by decide)]
      have : ∀ j, j < 7 → kP14 10 j = kA0 0 (8 + j) := by decide +kernel
      exact this k hk
    · rw [h2 9 (by decide)]
      have : ∀ y, y < 8 → ∀ j, j < 3 → kP14 9 (8 * j + y) = kA0 0 (16 + 3 * y + j) := by decide +kernel
      exact this z hz t ht
    all_goals (rw [kA0_n (by decide)] at hc; omega)
  · rw [h2 393 (by decide)]; rfl
  · rw [h2 0 (by decide)]; rfl
  · rw [h2 400 (by decide)]; rfl
  · rw [h2 397 (by decide)]; rfl
  · exact absurd hk (by show ¬ k < 0; omega)
  · rw [h2 _ (by omega)]
    have : ∀ j, j < 4 → kP14 (401 + 3 * j) 1 = kA0 6 j := by decide +kernel
    exact this i hi
  · rw [h2 _ (by omega)]
    have : ∀ j, j < 4 → kP14 (401 + 3 * j) 2 = kA0 7 j := by decide +kernel
    exact this i hi
  · rw [h2 _ (by omega)]
    have : ∀ j, j < 4 → ∀ y, y < 24 → kP14 (401 + 3 * j + 1) y = kA0 8 (24 * j + y) := by decide +kernel
    exact this i hi k hk
  · funext k; rw [h2 414 (by decide)]; rfl
  · funext k; rw [h2 415 (by decide)]; rfl
  · rw [h2 413 (by decide)]; rfl
  · funext k; rw [h2 416 (by decide)]; rfl
  · funext k; rw [hz 428 (by decide) (by decide)]; rfl
  · rw [h2 413 (by decide)]; rfl
  · funext k; rw [hz 429 (by decide) (by decide)]; rfl
  · funext k; rw [hz 430 (by decide) (by decide)]; rfl
  · funext k; rw [hz 431 (by decide) (by decide)]; rfl
  · rw [h2 417 (by decide)]
    have : ∀ j, j < 7 → kP14 417 j = nI (kTop.getD j 0) := by decide +kernel
    exact this k hk
  · rw [hz 423 (by decide) (by decide)]
