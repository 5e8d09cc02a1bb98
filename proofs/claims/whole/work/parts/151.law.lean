/-! THE LAW'S CALLS, one theorem a call: class and model from the state a to the same next state, with the same answer -/
abbrev kL (nm : String) : KM := (⟨RL, nm, "([I)Z"⟩, cL_law, 4, ret)
abbrev kl_ls (i : Nat) : List (Option Value) := [some (.ref 10300), some (.ref 0), some (.ref 413), some (.int (nI i))]
theorem kl_arg {w : KW} {l : Launch} {nm : String} {nc ns pc i : Nat} {rest : List Value} {u : KMem} {xs : Nat → Int32} {N : Nat} {n : Int} (j : Nat) (d0 : decode cL_law pc = .ok (.aload_n 0, 1)) (d1 : decode cL_law (pc + 1) = .ok (.iload_n 3, 1)) (d2 : decode cL_law (pc + 2) = .ok (.iconst n, 1)) (hn : Int32.ofInt n = nI j) (d3 : decode cL_law (pc + 3) = .ok (.iadd, 1)) (d4 : decode cL_law (pc + 4) = .ok (.iaload, 1)) (hij : i + j < N) (hN : N < 1000)
    (kk : KL w l (kL nm) 800 nc ns (pc + 5) (kl_ls i) (.int (xs (i + j)) :: rest) u xs N) : KL w l (kL nm) 800 nc ns pc (kl_ls i) rest u xs N :=
  kl_aload_n d0 rfl (kl_iload_n d1 rfl (kl_iconst d2 (nI j) hn (kl_iadd d3 (kl_sld d4 (nI_add i j) hij hN kk))))
/-- car -/
theorem kl_c0 {w : KW} {l : Launch} {nm : String} {i : Nat} {u : KMem} {xs : Nat → Int32} {N : Nat} {a : KA} (hb : kBoth a u) (hi : i + 6 ≤ N) (hN : N < 1000) (nx : ∀ (a2 : KA) (v : KMem), kBoth a2 v → KL w l (kL nm) 800 0 0 1608 (kl_ls i) [] v xs N) : KL w l (kL nm) 800 0 0 208 (kl_ls i) [] u xs N := by
  refine kl_aload_n dL_law_208 rfl ?_
  refine kl_arg 1 dL_law_209 dL_law_210 dL_law_211 rfl dL_law_212 dL_law_213 (by omega) hN ?_
  refine kl_arg 2 dL_law_214 dL_law_215 dL_law_216 rfl dL_law_217 dL_law_218 (by omega) hN ?_
  refine kl_arg 3 dL_law_219 dL_law_220 dL_law_221 rfl dL_law_222 dL_law_223 (by omega) hN ?_
  refine kl_arg 4 dL_law_224 dL_law_225 dL_law_226 rfl dL_law_227 dL_law_228 (by omega) hN ?_
  refine kl_callV [.int (xs (i + 1)), .int (xs (i + 2)), .int (xs (i + 3)), .int (xs (i + 4))] dL_law_229 lL_13 wX11_car (qX11_car hb.1 hb.2.1 hb.2.2.2 _ _ _ _) (kw_rcv hb.1 rfl rfl kC11) rfl rfl (by decide) (by decide) (by decide) (fun r v q => ?_)
  obtain ⟨rfl, hw, hx, hm⟩ := hb.x q
  refine kl_aload_n dL_law_232 rfl ?_
  refine kl_arg 1 dL_law_233 dL_law_234 dL_law_235 rfl dL_law_236 dL_law_237 (by omega) hN ?_
  refine kl_arg 2 dL_law_238 dL_law_239 dL_law_240 rfl dL_law_241 dL_law_242 (by omega) hN ?_
  refine kl_arg 3 dL_law_243 dL_law_244 dL_law_245 rfl dL_law_246 dL_law_247 (by omega) hN ?_
  refine kl_arg 4 dL_law_248 dL_law_249 dL_law_250 rfl dL_law_251 dL_law_252 (by omega) hN ?_
  refine kl_callV [.int (xs (i + 1)), .int (xs (i + 2)), .int (xs (i + 3)), .int (xs (i + 4))] dL_law_253 lL_17 wX12_car_ (qX12_car_ hw hm hb.2.2.2 _ _ _ _) (kw_rcv hw rfl rfl kC12) rfl rfl (by decide) (by decide) (by decide) (fun r v2 q => ?_)
  obtain ⟨rfl, hb2⟩ := kBoth.m hx (kcar_ok hb.2.2.2 _ _ _ _) q
  exact kl_icmp_eq dL_law_256 1608 (by decide) (fun _ => nx _ _ hb2) (fun h => absurd rfl h)
/-- carIs -/
theorem kl_c1 {w : KW} {l : Launch} {nm : String} {i : Nat} {u : KMem} {xs : Nat → Int32} {N : Nat} {a : KA} (hb : kBoth a u) (hi : i + 6 ≤ N) (hN : N < 1000) (nx : ∀ (a2 : KA) (v : KMem), kBoth a2 v → KL w l (kL nm) 800 0 0 1608 (kl_ls i) [] v xs N) : KL w l (kL nm) 800 0 0 261 (kl_ls i) [] u xs N := by
  refine kl_aload_n dL_law_261 rfl ?_
  refine kl_arg 1 dL_law_262 dL_law_263 dL_law_264 rfl dL_law_265 dL_law_266 (by omega) hN ?_
  refine kl_arg 2 dL_law_267 dL_law_268 dL_law_269 rfl dL_law_270 dL_law_271 (by omega) hN ?_
  refine kl_callV [.int (xs (i + 1)), .int (xs (i + 2))] dL_law_272 lL_18 wX11_carIs (qX11_carIs hb.1 hb.2.1 hb.2.2.2 _ _) (kw_rcv hb.1 rfl rfl kC11) rfl rfl (by decide) (by decide) (by decide) (fun r v q => ?_)
  obtain ⟨rfl, hw, hx, hm⟩ := hb.x q
  refine kl_aload_n dL_law_275 rfl ?_
  refine kl_arg 1 dL_law_276 dL_law_277 dL_law_278 rfl dL_law_279 dL_law_280 (by omega) hN ?_
  refine kl_arg 2 dL_law_281 dL_law_282 dL_law_283 rfl dL_law_284 dL_law_285 (by omega) hN ?_
  refine kl_callV [.int (xs (i + 1)), .int (xs (i + 2))] dL_law_286 lL_22 wX12_carIs (qX12_carIs hw hm hb.2.2.2 _ _) (kw_rcv hw rfl rfl kC12) rfl rfl (by decide) (by decide) (by decide) (fun r v2 q => ?_)
  obtain ⟨rfl, hb2⟩ := kBoth.m hx (kcarIs_ok hb.2.2.2 _ _) q
  exact kl_icmp_eq dL_law_289 1608 (by decide) (fun _ => nx _ _ hb2) (fun h => absurd rfl h)
/-- mark -/
theorem kl_c2 {w : KW} {l : Launch} {nm : String} {i : Nat} {u : KMem} {xs : Nat → Int32} {N : Nat} {a : KA} (hb : kBoth a u) (hi : i + 6 ≤ N) (hN : N < 1000) (nx : ∀ (a2 : KA) (v : KMem), kBoth a2 v → KL w l (kL nm) 800 0 0 1608 (kl_ls i) [] v xs N) : KL w l (kL nm) 800 0 0 294 (kl_ls i) [] u xs N := by
  refine kl_aload_n dL_law_294 rfl ?_
  refine kl_arg 1 dL_law_295 dL_law_296 dL_law_297 rfl dL_law_298 dL_law_299 (by omega) hN ?_
  refine kl_arg 2 dL_law_300 dL_law_301 dL_law_302 rfl dL_law_303 dL_law_304 (by omega) hN ?_
  refine kl_arg 3 dL_law_305 dL_law_306 dL_law_307 rfl dL_law_308 dL_law_309 (by omega) hN ?_
  refine kl_callV [.int (xs (i + 1)), .int (xs (i + 2)), .int (xs (i + 3))] dL_law_310 lL_23 wX11_mark (qX11_mark hb.1 hb.2.1 hb.2.2.2 _ _ _) (kw_rcv hb.1 rfl rfl kC11) rfl rfl (by decide) (by decide) (by decide) (fun r v q => ?_)
  obtain ⟨rfl, hw, hx, hm⟩ := hb.x q
  refine kl_aload_n dL_law_313 rfl ?_
  refine kl_arg 1 dL_law_314 dL_law_315 dL_law_316 rfl dL_law_317 dL_law_318 (by omega) hN ?_
  refine kl_arg 2 dL_law_319 dL_law_320 dL_law_321 rfl dL_law_322 dL_law_323 (by omega) hN ?_
  refine kl_arg 3 dL_law_324 dL_law_325 dL_law_326 rfl dL_law_327 dL_law_328 (by omega) hN ?_
  refine kl_callV [.int (xs (i + 1)), .int (xs (i + 2)), .int (xs (i + 3))] dL_law_329 lL_27 wX12_mark (qX12_mark hw hm hb.2.2.2 _ _ _) (kw_rcv hw rfl rfl kC12) rfl rfl (by decide) (by decide) (by decide) (fun r v2 q => ?_)
  obtain ⟨rfl, hb2⟩ := kBoth.m hx (kmark_ok hb.2.2.2 _ _ _) q
  exact kl_icmp_eq dL_law_332 1608 (by decide) (fun _ => nx _ _ hb2) (fun h => absurd rfl h)
/-- shape -/
theorem kl_c3 {w : KW} {l : Launch} {nm : String} {i : Nat} {u : KMem} {xs : Nat → Int32} {N : Nat} {a : KA} (hb : kBoth a u) (hi : i + 6 ≤ N) (hN : N < 1000) (nx : ∀ (a2 : KA) (v : KMem), kBoth a2 v → KL w l (kL nm) 800 0 0 1608 (kl_ls i) [] v xs N) : KL w l (kL nm) 800 0 0 337 (kl_ls i) [] u xs N := by
  refine kl_aload_n dL_law_337 rfl ?_
  refine kl_arg 1 dL_law_338 dL_law_339 dL_law_340 rfl dL_law_341 dL_law_342 (by omega) hN ?_
  refine kl_arg 2 dL_law_343 dL_law_344 dL_law_345 rfl dL_law_346 dL_law_347 (by omega) hN ?_
  refine kl_arg 3 dL_law_348 dL_law_349 dL_law_350 rfl dL_law_351 dL_law_352 (by omega) hN ?_
  refine kl_callV [.int (xs (i + 1)), .int (xs (i + 2)), .int (xs (i + 3))] dL_law_353 lL_28 wX11_shape (qX11_shape hb.1 hb.2.1 hb.2.2.2 _ _ _) (kw_rcv hb.1 rfl rfl kC11) rfl rfl (by decide) (by decide) (by decide) (fun r v q => ?_)
  obtain ⟨rfl, hw, hx, hm⟩ := hb.x q
  refine kl_aload_n dL_law_356 rfl ?_
  refine kl_arg 1 dL_law_357 dL_law_358 dL_law_359 rfl dL_law_360 dL_law_361 (by omega) hN ?_
  refine kl_arg 2 dL_law_362 dL_law_363 dL_law_364 rfl dL_law_365 dL_law_366 (by omega) hN ?_
  refine kl_arg 3 dL_law_367 dL_law_368 dL_law_369 rfl dL_law_370 dL_law_371 (by omega) hN ?_
  refine kl_callV [.int (xs (i + 1)), .int (xs (i + 2)), .int (xs (i + 3))] dL_law_372 lL_31 wX12_shape (qX12_shape hw hm hb.2.2.2 _ _ _) (kw_rcv hw rfl rfl kC12) rfl rfl (by decide) (by decide) (by decide) (fun r v2 q => ?_)
  obtain ⟨rfl, hb2⟩ := kBoth.m hx (kshape_ok hb.2.2.2 _ _ _) q
  exact kl_icmp_eq dL_law_375 1608 (by decide) (fun _ => nx _ _ hb2) (fun h => absurd rfl h)
/-- crash -/
theorem kl_c4 {w : KW} {l : Launch} {nm : String} {i : Nat} {u : KMem} {xs : Nat → Int32} {N : Nat} {a : KA} (hb : kBoth a u) (hi : i + 6 ≤ N) (hN : N < 1000) (nx : ∀ (a2 : KA) (v : KMem), kBoth a2 v → KL w l (kL nm) 800 0 0 1608 (kl_ls i) [] v xs N) : KL w l (kL nm) 800 0 0 380 (kl_ls i) [] u xs N := by
  refine kl_aload_n dL_law_380 rfl ?_
  refine kl_arg 1 dL_law_381 dL_law_382 dL_law_383 rfl dL_law_384 dL_law_385 (by omega) hN ?_
  refine kl_arg 2 dL_law_386 dL_law_387 dL_law_388 rfl dL_law_389 dL_law_390 (by omega) hN ?_
  refine kl_arg 3 dL_law_391 dL_law_392 dL_law_393 rfl dL_law_394 dL_law_395 (by omega) hN ?_
  refine kl_callV [.int (xs (i + 1)), .int (xs (i + 2)), .int (xs (i + 3))] dL_law_396 lL_32 wX11_crash (qX11_crash hb.1 hb.2.1 hb.2.2.2 _ _ _) (kw_rcv hb.1 rfl rfl kC11) rfl rfl (by decide) (by decide) (by decide) (fun r v q => ?_)
  obtain ⟨rfl, hw, hx, hm⟩ := hb.x q
  refine kl_aload_n dL_law_399 rfl ?_
  refine kl_arg 1 dL_law_400 dL_law_401 dL_law_402 rfl dL_law_403 dL_law_404 (by omega) hN ?_
  refine kl_arg 2 dL_law_405 dL_law_406 dL_law_407 rfl dL_law_408 dL_law_409 (by omega) hN ?_
  refine kl_arg 3 dL_law_410 dL_law_411 dL_law_412 rfl dL_law_413 dL_law_414 (by omega) hN ?_
  refine kl_callV [.int (xs (i + 1)), .int (xs (i + 2)), .int (xs (i + 3))] dL_law_415 lL_35 wX12_crash (qX12_crash hw hm hb.2.2.2 _ _ _) (kw_rcv hw rfl rfl kC12) rfl rfl (by decide) (by decide) (by decide) (fun r v2 q => ?_)
  obtain ⟨rfl, hb2⟩ := kBoth.m hx (kcrash_ok hb.2.2.2 _ _ _) q
  exact kl_icmp_eq dL_law_418 1608 (by decide) (fun _ => nx _ _ hb2) (fun h => absurd rfl h)
/-- tells -/
theorem kl_c5 {w : KW} {l : Launch} {nm : String} {i : Nat} {u : KMem} {xs : Nat → Int32} {N : Nat} {a : KA} (hb : kBoth a u) (hi : i + 6 ≤ N) (hN : N < 1000) (nx : ∀ (a2 : KA) (v : KMem), kBoth a2 v → KL w l (kL nm) 800 0 0 1608 (kl_ls i) [] v xs N) : KL w l (kL nm) 800 0 0 423 (kl_ls i) [] u xs N := by
  refine kl_aload_n dL_law_423 rfl ?_
  refine kl_arg 1 dL_law_424 dL_law_425 dL_law_426 rfl dL_law_427 dL_law_428 (by omega) hN ?_
  refine kl_arg 2 dL_law_429 dL_law_430 dL_law_431 rfl dL_law_432 dL_law_433 (by omega) hN ?_
  refine kl_arg 3 dL_law_434 dL_law_435 dL_law_436 rfl dL_law_437 dL_law_438 (by omega) hN ?_
  refine kl_callV [.int (xs (i + 1)), .int (xs (i + 2)), .int (xs (i + 3))] dL_law_439 lL_36 wX11_tells (qX11_tells hb.1 hb.2.1 hb.2.2.2 _ _ _) (kw_rcv hb.1 rfl rfl kC11) rfl rfl (by decide) (by decide) (by decide) (fun r v q => ?_)
  obtain ⟨rfl, hw, hx, hm⟩ := hb.x q
  refine kl_aload_n dL_law_442 rfl ?_
  refine kl_arg 1 dL_law_443 dL_law_444 dL_law_445 rfl dL_law_446 dL_law_447 (by omega) hN ?_
  refine kl_arg 2 dL_law_448 dL_law_449 dL_law_450 rfl dL_law_451 dL_law_452 (by omega) hN ?_
  refine kl_arg 3 dL_law_453 dL_law_454 dL_law_455 rfl dL_law_456 dL_law_457 (by omega) hN ?_
  refine kl_callV [.int (xs (i + 1)), .int (xs (i + 2)), .int (xs (i + 3))] dL_law_458 lL_39 wX12_tells (qX12_tells hw hm hb.2.2.2 _ _ _) (kw_rcv hw rfl rfl kC12) rfl rfl (by decide) (by decide) (by decide) (fun r v2 q => ?_)
  obtain ⟨rfl, hb2⟩ := kBoth.m hx (ktells_ok hb.2.2.2 _ _ _) q
  exact kl_icmp_eq dL_law_461 1608 (by decide) (fun _ => nx _ _ hb2) (fun h => absurd rfl h)
/-- crashIs -/
theorem kl_c6 {w : KW} {l : Launch} {nm : String} {i : Nat} {u : KMem} {xs : Nat → Int32} {N : Nat} {a : KA} (hb : kBoth a u) (hi : i + 6 ≤ N) (hN : N < 1000) (nx : ∀ (a2 : KA) (v : KMem), kBoth a2 v → KL w l (kL nm) 800 0 0 1608 (kl_ls i) [] v xs N) : KL w l (kL nm) 800 0 0 466 (kl_ls i) [] u xs N := by
  refine kl_aload_n dL_law_466 rfl ?_
  refine kl_arg 1 dL_law_467 dL_law_468 dL_law_469 rfl dL_law_470 dL_law_471 (by omega) hN ?_
  refine kl_arg 2 dL_law_472 dL_law_473 dL_law_474 rfl dL_law_475 dL_law_476 (by omega) hN ?_
  refine kl_callV [.int (xs (i + 1)), .int (xs (i + 2))] dL_law_477 lL_40 wX11_crashIs (qX11_crashIs hb.1 hb.2.1 hb.2.2.2 _ _) (kw_rcv hb.1 rfl rfl kC11) rfl rfl (by decide) (by decide) (by decide) (fun r v q => ?_)
  obtain ⟨rfl, hw, hx, hm⟩ := hb.x q
  refine kl_aload_n dL_law_480 rfl ?_
  refine kl_arg 1 dL_law_481 dL_law_482 dL_law_483 rfl dL_law_484 dL_law_485 (by omega) hN ?_
  refine kl_arg 2 dL_law_486 dL_law_487 dL_law_488 rfl dL_law_489 dL_law_490 (by omega) hN ?_
  refine kl_callV [.int (xs (i + 1)), .int (xs (i + 2))] dL_law_491 lL_43 wX12_crashIs (qX12_crashIs hw hm hb.2.2.2 _ _) (kw_rcv hw rfl rfl kC12) rfl rfl (by decide) (by decide) (by decide) (fun r v2 q => ?_)
  obtain ⟨rfl, hb2⟩ := kBoth.m hx (kcrashIs_ok hb.2.2.2 _ _) q
  exact kl_icmp_eq dL_law_494 1608 (by decide) (fun _ => nx _ _ hb2) (fun h => absurd rfl h)
/-- zone -/
theorem kl_c7 {w : KW} {l : Launch} {nm : String} {i : Nat} {u : KMem} {xs : Nat → Int32} {N : Nat} {a : KA} (hb : kBoth a u) (hi : i + 6 ≤ N) (hN : N < 1000) (nx : ∀ (a2 : KA) (v : KMem), kBoth a2 v → KL w l (kL nm) 800 0 0 1608 (kl_ls i) [] v xs N) : KL w l (kL nm) 800 0 0 499 (kl_ls i) [] u xs N := by
  refine kl_aload_n dL_law_499 rfl ?_
  refine kl_arg 1 dL_law_500 dL_law_501 dL_law_502 rfl dL_law_503 dL_law_504 (by omega) hN ?_
  refine kl_arg 2 dL_law_505 dL_law_506 dL_law_507 rfl dL_law_508 dL_law_509 (by omega) hN ?_
  refine kl_arg 3 dL_law_510 dL_law_511 dL_law_512 rfl dL_law_513 dL_law_514 (by omega) hN ?_
  refine kl_callV [.int (xs (i + 1)), .int (xs (i + 2)), .int (xs (i + 3))] dL_law_515 lL_44 wX11_zone (qX11_zone hb.1 hb.2.1 hb.2.2.2 _ _ _) (kw_rcv hb.1 rfl rfl kC11) rfl rfl (by decide) (by decide) (by decide) (fun r v q => ?_)
  obtain ⟨rfl, hw, hx, hm⟩ := hb.x q
  refine kl_aload_n dL_law_518 rfl ?_
  refine kl_arg 1 dL_law_519 dL_law_520 dL_law_521 rfl dL_law_522 dL_law_523 (by omega) hN ?_
  refine kl_arg 2 dL_law_524 dL_law_525 dL_law_526 rfl dL_law_527 dL_law_528 (by omega) hN ?_
  refine kl_arg 3 dL_law_529 dL_law_530 dL_law_531 rfl dL_law_532 dL_law_533 (by omega) hN ?_
  refine kl_callV [.int (xs (i + 1)), .int (xs (i + 2)), .int (xs (i + 3))] dL_law_534 lL_47 wX12_zone (qX12_zone hw hm hb.2.2.2 _ _ _) (kw_rcv hw rfl rfl kC12) rfl rfl (by decide) (by decide) (by decide) (fun r v2 q => ?_)
  obtain ⟨rfl, hb2⟩ := kBoth.m hx (kzone_ok hb.2.2.2 _ _ _) q
  exact kl_icmp_eq dL_law_537 1608 (by decide) (fun _ => nx _ _ hb2) (fun h => absurd rfl h)
/-- rate -/
theorem kl_c8 {w : KW} {l : Launch} {nm : String} {i : Nat} {u : KMem} {xs : Nat → Int32} {N : Nat} {a : KA} (hb : kBoth a u) (hi : i + 6 ≤ N) (hN : N < 1000) (nx : ∀ (a2 : KA) (v : KMem), kBoth a2 v → KL w l (kL nm) 800 0 0 1608 (kl_ls i) [] v xs N) : KL w l (kL nm) 800 0 0 542 (kl_ls i) [] u xs N := by
  refine kl_aload_n dL_law_542 rfl ?_
  refine kl_arg 1 dL_law_543 dL_law_544 dL_law_545 rfl dL_law_546 dL_law_547 (by omega) hN ?_
  refine kl_arg 2 dL_law_548 dL_law_549 dL_law_550 rfl dL_law_551 dL_law_552 (by omega) hN ?_
  refine kl_callV [.int (xs (i + 1)), .int (xs (i + 2))] dL_law_553 lL_48 wX11_rate (qX11_rate hb.1 hb.2.1 hb.2.2.2 _ _) (kw_rcv hb.1 rfl rfl kC11) rfl rfl (by decide) (by decide) (by decide) (fun r v q => ?_)
  obtain ⟨rfl, hw, hx, hm⟩ := hb.x q
  refine kl_aload_n dL_law_556 rfl ?_
  refine kl_arg 1 dL_law_557 dL_law_558 dL_law_559 rfl dL_law_560 dL_law_561 (by omega) hN ?_
  refine kl_arg 2 dL_law_562 dL_law_563 dL_law_564 rfl dL_law_565 dL_law_566 (by omega) hN ?_
  refine kl_callV [.int (xs (i + 1)), .int (xs (i + 2))] dL_law_567 lL_51 wX12_rate (qX12_rate hw hm hb.2.2.2 _ _) (kw_rcv hw rfl rfl kC12) rfl rfl (by decide) (by decide) (by decide) (fun r v2 q => ?_)
  obtain ⟨rfl, hb2⟩ := kBoth.m hx (krate_ok hb.2.2.2 _ _) q
  exact kl_icmp_eq dL_law_570 1608 (by decide) (fun _ => nx _ _ hb2) (fun h => absurd rfl h)
/-- worth -/
theorem kl_c9 {w : KW} {l : Launch} {nm : String} {i : Nat} {u : KMem} {xs : Nat → Int32} {N : Nat} {a : KA} (hb : kBoth a u) (hi : i + 6 ≤ N) (hN : N < 1000) (nx : ∀ (a2 : KA) (v : KMem), kBoth a2 v → KL w l (kL nm) 800 0 0 1608 (kl_ls i) [] v xs N) : KL w l (kL nm) 800 0 0 575 (kl_ls i) [] u xs N := by
  refine kl_aload_n dL_law_575 rfl ?_
  refine kl_arg 1 dL_law_576 dL_law_577 dL_law_578 rfl dL_law_579 dL_law_580 (by omega) hN ?_
  refine kl_arg 2 dL_law_581 dL_law_582 dL_law_583 rfl dL_law_584 dL_law_585 (by omega) hN ?_
  refine kl_arg 3 dL_law_586 dL_law_587 dL_law_588 rfl dL_law_589 dL_law_590 (by omega) hN ?_
  refine kl_callV [.int (xs (i + 1)), .int (xs (i + 2)), .int (xs (i + 3))] dL_law_591 lL_52 wX11_worth (qX11_worth hb.1 hb.2.1 hb.2.2.2 _ _ _) (kw_rcv hb.1 rfl rfl kC11) rfl rfl (by decide) (by decide) (by decide) (fun r v q => ?_)
  obtain ⟨rfl, hw, hx, hm⟩ := hb.x q
  refine kl_aload_n dL_law_594 rfl ?_
  refine kl_arg 1 dL_law_595 dL_law_596 dL_law_597 rfl dL_law_598 dL_law_599 (by omega) hN ?_
  refine kl_arg 2 dL_law_600 dL_law_601 dL_law_602 rfl dL_law_603 dL_law_604 (by omega) hN ?_
  refine kl_arg 3 dL_law_605 dL_law_606 dL_law_607 rfl dL_law_608 dL_law_609 (by omega) hN ?_
  refine kl_callV [.int (xs (i + 1)), .int (xs (i + 2)), .int (xs (i + 3))] dL_law_610 lL_55 wX12_worth (qX12_worth hw hm hb.2.2.2 _ _ _) (kw_rcv hw rfl rfl kC12) rfl rfl (by decide) (by decide) (by decide) (fun r v2 q => ?_)
  obtain ⟨rfl, hb2⟩ := kBoth.m hx (kworth_ok hb.2.2.2 _ _ _) q
  exact kl_icmp_eq dL_law_613 1608 (by decide) (fun _ => nx _ _ hb2) (fun h => absurd rfl h)
/-- back -/
theorem kl_c10 {w : KW} {l : Launch} {nm : String} {i : Nat} {u : KMem} {xs : Nat → Int32} {N : Nat} {a : KA} (hb : kBoth a u) (hi : i + 6 ≤ N) (hN : N < 1000) (nx : ∀ (a2 : KA) (v : KMem), kBoth a2 v → KL w l (kL nm) 800 0 0 1608 (kl_ls i) [] v xs N) : KL w l (kL nm) 800 0 0 618 (kl_ls i) [] u xs N := by
  refine kl_aload_n dL_law_618 rfl ?_
  refine kl_arg 1 dL_law_619 dL_law_620 dL_law_621 rfl dL_law_622 dL_law_623 (by omega) hN ?_
  refine kl_arg 2 dL_law_624 dL_law_625 dL_law_626 rfl dL_law_627 dL_law_628 (by omega) hN ?_
  refine kl_arg 3 dL_law_629 dL_law_630 dL_law_631 rfl dL_law_632 dL_law_633 (by omega) hN ?_
  refine kl_callV [.int (xs (i + 1)), .int (xs (i + 2)), .int (xs (i + 3))] dL_law_634 lL_56 wX11_back (qX11_back hb.1 hb.2.1 hb.2.2.2 _ _ _) (kw_rcv hb.1 rfl rfl kC11) rfl rfl (by decide) (by decide) (by decide) (fun r v q => ?_)
  obtain ⟨rfl, hw, hx, hm⟩ := hb.x q
  refine kl_aload_n dL_law_637 rfl ?_
  refine kl_arg 1 dL_law_638 dL_law_639 dL_law_640 rfl dL_law_641 dL_law_642 (by omega) hN ?_
  refine kl_arg 2 dL_law_643 dL_law_644 dL_law_645 rfl dL_law_646 dL_law_647 (by omega) hN ?_
  refine kl_arg 3 dL_law_648 dL_law_649 dL_law_650 rfl dL_law_651 dL_law_652 (by omega) hN ?_
  refine kl_callV [.int (xs (i + 1)), .int (xs (i + 2)), .int (xs (i + 3))] dL_law_653 lL_59 wX12_back (qX12_back hw hm hb.2.2.2 _ _ _) (kw_rcv hw rfl rfl kC12) rfl rfl (by decide) (by decide) (by decide) (fun r v2 q => ?_)
  obtain ⟨rfl, hb2⟩ := kBoth.m hx (kback_ok hb.2.2.2 _ _ _) q
  exact kl_icmp_eq dL_law_656 1608 (by decide) (fun _ => nx _ _ hb2) (fun h => absurd rfl h)
/-- feed -/
theorem kl_c11 {w : KW} {l : Launch} {nm : String} {i : Nat} {u : KMem} {xs : Nat → Int32} {N : Nat} {a : KA} (hb : kBoth a u) (hi : i + 6 ≤ N) (hN : N < 1000) (nx : ∀ (a2 : KA) (v : KMem), kBoth a2 v → KL w l (kL nm) 800 0 0 1608 (kl_ls i) [] v xs N) : KL w l (kL nm) 800 0 0 661 (kl_ls i) [] u xs N := by
  refine kl_aload_n dL_law_661 rfl ?_
  refine kl_arg 1 dL_law_662 dL_law_663 dL_law_664 rfl dL_law_665 dL_law_666 (by omega) hN ?_
  refine kl_i2l dL_law_667 ?_
  refine kl_bipush dL_law_668 32 kb_32 ?_
  refine kl_lshl dL_law_670 ?_
  refine kl_arg 2 dL_law_671 dL_law_672 dL_law_673 rfl dL_law_674 dL_law_675 (by omega) hN ?_
  refine kl_i2l dL_law_676 ?_
  refine kl_ldc2 dL_law_677 kL_60 ?_
  refine kl_land dL_law_680 ?_
  refine kl_lor dL_law_681 ?_
  refine kl_arg 3 dL_law_682 dL_law_683 dL_law_684 rfl dL_law_685 dL_law_686 (by omega) hN ?_
  refine kl_callV [.long (((xs (i + 1)).toInt64 <<< ((32 : Int32).toInt64 &&& 63)) ||| ((xs (i + 2)).toInt64 &&& 4294967295)), .int (xs (i + 3))] dL_law_687 lL_62 wX11_feed (qX11_feed hb.1 hb.2.1 hb.2.2.2 _ _) (kw_rcv hb.1 rfl rfl kC11) rfl rfl (by decide) (by decide) (by decide) (fun r v q => ?_)
  obtain ⟨rfl, hw, hx, hm⟩ := hb.x q
  refine kl_aload_n dL_law_690 rfl ?_
  refine kl_arg 1 dL_law_691 dL_law_692 dL_law_693 rfl dL_law_694 dL_law_695 (by omega) hN ?_
  refine kl_i2l dL_law_696 ?_
  refine kl_bipush dL_law_697 32 kb_32 ?_
  refine kl_lshl dL_law_699 ?_
  refine kl_arg 2 dL_law_700 dL_law_701 dL_law_702 rfl dL_law_703 dL_law_704 (by omega) hN ?_
  refine kl_i2l dL_law_705 ?_
  refine kl_ldc2 dL_law_706 kL_60 ?_
  refine kl_land dL_law_709 ?_
  refine kl_lor dL_law_710 ?_
  refine kl_arg 3 dL_law_711 dL_law_712 dL_law_713 rfl dL_law_714 dL_law_715 (by omega) hN ?_
  refine kl_callV [.long (((xs (i + 1)).toInt64 <<< ((32 : Int32).toInt64 &&& 63)) ||| ((xs (i + 2)).toInt64 &&& 4294967295)), .int (xs (i + 3))] dL_law_716 lL_66 wX12_feed (qX12_feed hw hm hb.2.2.2 _ _) (kw_rcv hw rfl rfl kC12) rfl rfl (by decide) (by decide) (by decide) (fun r v2 q => ?_)
  obtain ⟨rfl, hb2⟩ := kBoth.m hx (kfeed_ok hb.2.2.2 _ _) q
  exact kl_icmp_eq dL_law_719 1608 (by decide) (fun _ => nx _ _ hb2) (fun h => absurd rfl h)
/-- treaty -/
theorem kl_c12 {w : KW} {l : Launch} {nm : String} {i : Nat} {u : KMem} {xs : Nat → Int32} {N : Nat} {a : KA} (hb : kBoth a u) (hi : i + 6 ≤ N) (hN : N < 1000) (nx : ∀ (a2 : KA) (v : KMem), kBoth a2 v → KL w l (kL nm) 800 0 0 1608 (kl_ls i) [] v xs N) : KL w l (kL nm) 800 0 0 724 (kl_ls i) [] u xs N := by
  refine kl_aload_n dL_law_724 rfl ?_
  refine kl_arg 1 dL_law_725 dL_law_726 dL_law_727 rfl dL_law_728 dL_law_729 (by omega) hN ?_
  refine kl_arg 2 dL_law_730 dL_law_731 dL_law_732 rfl dL_law_733 dL_law_734 (by omega) hN ?_
  refine kl_callV [.int (xs (i + 1)), .int (xs (i + 2))] dL_law_735 lL_67 wX11_treaty (qX11_treaty hb.1 hb.2.1 hb.2.2.2 _ _) (kw_rcv hb.1 rfl rfl kC11) rfl rfl (by decide) (by decide) (by decide) (fun r v q => ?_)
  obtain ⟨rfl, hw, hx, hm⟩ := hb.x q
  refine kl_aload_n dL_law_738 rfl ?_
  refine kl_arg 1 dL_law_739 dL_law_740 dL_law_741 rfl dL_law_742 dL_law_743 (by omega) hN ?_
  refine kl_arg 2 dL_law_744 dL_law_745 dL_law_746 rfl dL_law_747 dL_law_748 (by omega) hN ?_
  refine kl_callV [.int (xs (i + 1)), .int (xs (i + 2))] dL_law_749 lL_70 wX12_treaty (qX12_treaty hw hm hb.2.2.2 _ _) (kw_rcv hw rfl rfl kC12) rfl rfl (by decide) (by decide) (by decide) (fun r v2 q => ?_)
  obtain ⟨rfl, hb2⟩ := kBoth.m hx (ktreaty_ok hb.2.2.2 _ _) q
  exact kl_icmp_eq dL_law_752 1608 (by decide) (fun _ => nx _ _ hb2) (fun h => absurd rfl h)
/-- force -/
theorem kl_c13 {w : KW} {l : Launch} {nm : String} {i : Nat} {u : KMem} {xs : Nat → Int32} {N : Nat} {a : KA} (hb : kBoth a u) (hi : i + 6 ≤ N) (hN : N < 1000) (nx : ∀ (a2 : KA) (v : KMem), kBoth a2 v → KL w l (kL nm) 800 0 0 1608 (kl_ls i) [] v xs N) : KL w l (kL nm) 800 0 0 757 (kl_ls i) [] u xs N := by
  refine kl_aload_n dL_law_757 rfl ?_
  refine kl_arg 1 dL_law_758 dL_law_759 dL_law_760 rfl dL_law_761 dL_law_762 (by omega) hN ?_
  refine kl_arg 2 dL_law_763 dL_law_764 dL_law_765 rfl dL_law_766 dL_law_767 (by omega) hN ?_
  refine kl_callV [.int (xs (i + 1)), .int (xs (i + 2))] dL_law_768 lL_71 wX11_force (qX11_force hb.1 hb.2.1 hb.2.2.2 _ _) (kw_rcv hb.1 rfl rfl kC11) rfl rfl (by decide) (by decide) (by decide) (fun r v q => ?_)
  obtain ⟨rfl, hw, hx, hm⟩ := hb.x q
  refine kl_aload_n dL_law_771 rfl ?_
  refine kl_arg 1 dL_law_772 dL_law_773 dL_law_774 rfl dL_law_775 dL_law_776 (by omega) hN ?_
  refine kl_arg 2 dL_law_777 dL_law_778 dL_law_779 rfl dL_law_780 dL_law_781 (by omega) hN ?_
  refine kl_callV [.int (xs (i + 1)), .int (xs (i + 2))] dL_law_782 lL_74 wX12_force (qX12_force hw hm hb.2.2.2 _ _) (kw_rcv hw rfl rfl kC12) rfl rfl (by decide) (by decide) (by decide) (fun r v2 q => ?_)
  obtain ⟨rfl, hb2⟩ := kBoth.m hx (kforce_ok hb.2.2.2 _ _) q
  exact kl_icmp_eq dL_law_785 1608 (by decide) (fun _ => nx _ _ hb2) (fun h => absurd rfl h)
/-- says -/
theorem kl_c14 {w : KW} {l : Launch} {nm : String} {i : Nat} {u : KMem} {xs : Nat → Int32} {N : Nat} {a : KA} (hb : kBoth a u) (hi : i + 6 ≤ N) (hN : N < 1000) (nx : ∀ (a2 : KA) (v : KMem), kBoth a2 v → KL w l (kL nm) 800 0 0 1608 (kl_ls i) [] v xs N) : KL w l (kL nm) 800 0 0 790 (kl_ls i) [] u xs N := by
  refine kl_aload_n dL_law_790 rfl ?_
  refine kl_arg 1 dL_law_791 dL_law_792 dL_law_793 rfl dL_law_794 dL_law_795 (by omega) hN ?_
  refine kl_arg 2 dL_law_796 dL_law_797 dL_law_798 rfl dL_law_799 dL_law_800 (by omega) hN ?_
  refine kl_arg 3 dL_law_801 dL_law_802 dL_law_803 rfl dL_law_804 dL_law_805 (by omega) hN ?_
  refine kl_arg 4 dL_law_806 dL_law_807 dL_law_808 rfl dL_law_809 dL_law_810 (by omega) hN ?_
  refine kl_arg 5 dL_law_811 dL_law_812 dL_law_813 rfl dL_law_814 dL_law_815 (by omega) hN ?_
  refine kl_callV [.int (xs (i + 1)), .int (xs (i + 2)), .int (xs (i + 3)), .int (xs (i + 4)), .int (xs (i + 5))] dL_law_816 lL_75 wX11_says (qX11_says hb.1 hb.2.1 hb.2.2.2 _ _ _ _ _) (kw_rcv hb.1 rfl rfl kC11) rfl rfl (by decide) (by decide) (by decide) (fun r v q => ?_)
  obtain ⟨rfl, hw, hx, hm⟩ := hb.x q
  refine kl_aload_n dL_law_819 rfl ?_
  refine kl_arg 1 dL_law_820 dL_law_821 dL_law_822 rfl dL_law_823 dL_law_824 (by omega) hN ?_
  refine kl_arg 2 dL_law_825 dL_law_826 dL_law_827 rfl dL_law_828 dL_law_829 (by omega) hN ?_
  refine kl_arg 3 dL_law_830 dL_law_831 dL_law_832 rfl dL_law_833 dL_law_834 (by omega) hN ?_
  refine kl_arg 4 dL_law_835 dL_law_836 dL_law_837 rfl dL_law_838 dL_law_839 (by omega) hN ?_
  refine kl_arg 5 dL_law_840 dL_law_841 dL_law_842 rfl dL_law_843 dL_law_844 (by omega) hN ?_
  refine kl_callV [.int (xs (i + 1)), .int (xs (i + 2)), .int (xs (i + 3)), .int (xs (i + 4)), .int (xs (i + 5))] dL_law_845 lL_79 wX12_says (qX12_says hw hm hb.2.2.2 _ _ _ _ _) (kw_rcv hw rfl rfl kC12) rfl rfl (by decide) (by decide) (by decide) (fun r v2 q => ?_)
  obtain ⟨rfl, hb2⟩ := kBoth.m hx (ksays_ok hb.2.2.2 _ _ _ _ _) q
  exact kl_icmp_eq dL_law_848 1608 (by decide) (fun _ => nx _ _ hb2) (fun h => absurd rfl h)
/-- enter -/
theorem kl_c15 {w : KW} {l : Launch} {nm : String} {i : Nat} {u : KMem} {xs : Nat → Int32} {N : Nat} {a : KA} (hb : kBoth a u) (hi : i + 6 ≤ N) (hN : N < 1000) (nx : ∀ (a2 : KA) (v : KMem), kBoth a2 v → KL w l (kL nm) 800 0 0 1608 (kl_ls i) [] v xs N) : KL w l (kL nm) 800 0 0 853 (kl_ls i) [] u xs N := by
  refine kl_aload_n dL_law_853 rfl ?_
  refine kl_arg 1 dL_law_854 dL_law_855 dL_law_856 rfl dL_law_857 dL_law_858 (by omega) hN ?_
  refine kl_arg 2 dL_law_859 dL_law_860 dL_law_861 rfl dL_law_862 dL_law_863 (by omega) hN ?_
  refine kl_arg 3 dL_law_864 dL_law_865 dL_law_866 rfl dL_law_867 dL_law_868 (by omega) hN ?_
  refine kl_arg 4 dL_law_869 dL_law_870 dL_law_871 rfl dL_law_872 dL_law_873 (by omega) hN ?_
  refine kl_callV [.int (xs (i + 1)), .int (xs (i + 2)), .int (xs (i + 3)), .int (xs (i + 4))] dL_law_874 lL_80 wX11_enter (qX11_enter hb.1 hb.2.1 hb.2.2.2 _ _ _ _) (kw_rcv hb.1 rfl rfl kC11) rfl rfl (by decide) (by decide) (by decide) (fun r v q => ?_)
  obtain ⟨rfl, hw, hx, hm⟩ := hb.x q
  refine kl_aload_n dL_law_877 rfl ?_
  refine kl_arg 1 dL_law_878 dL_law_879 dL_law_880 rfl dL_law_881 dL_law_882 (by omega) hN ?_
  refine kl_arg 2 dL_law_883 dL_law_884 dL_law_885 rfl dL_law_886 dL_law_887 (by omega) hN ?_
  refine kl_arg 3 dL_law_888 dL_law_889 dL_law_890 rfl dL_law_891 dL_law_892 (by omega) hN ?_
  refine kl_arg 4 dL_law_893 dL_law_894 dL_law_895 rfl dL_law_896 dL_law_897 (by omega) hN ?_
  refine kl_callV [.int (xs (i + 1)), .int (xs (i + 2)), .int (xs (i + 3)), .int (xs (i + 4))] dL_law_898 lL_83 wX12_enter (qX12_enter hw hm hb.2.2.2 _ _ _ _) (kw_rcv hw rfl rfl kC12) rfl rfl (by decide) (by decide) (by decide) (fun r v2 q => ?_)
  obtain ⟨rfl, hb2⟩ := kBoth.m hx (kenter_ok hb.2.2.2 _ _ _ _) q
  exact kl_icmp_eq dL_law_901 1608 (by decide) (fun _ => nx _ _ hb2) (fun h => absurd rfl h)
/-- entryIs -/
theorem kl_c16 {w : KW} {l : Launch} {nm : String} {i : Nat} {u : KMem} {xs : Nat → Int32} {N : Nat} {a : KA} (hb : kBoth a u) (hi : i + 6 ≤ N) (hN : N < 1000) (nx : ∀ (a2 : KA) (v : KMem), kBoth a2 v → KL w l (kL nm) 800 0 0 1608 (kl_ls i) [] v xs N) : KL w l (kL nm) 800 0 0 906 (kl_ls i) [] u xs N := by
  refine kl_aload_n dL_law_906 rfl ?_
  refine kl_arg 1 dL_law_907 dL_law_908 dL_law_909 rfl dL_law_910 dL_law_911 (by omega) hN ?_
  refine kl_arg 2 dL_law_912 dL_law_913 dL_law_914 rfl dL_law_915 dL_law_916 (by omega) hN ?_
  refine kl_callV [.int (xs (i + 1)), .int (xs (i + 2))] dL_law_917 lL_84 wX11_entryIs (qX11_entryIs hb.1 hb.2.1 hb.2.2.2 _ _) (kw_rcv hb.1 rfl rfl kC11) rfl rfl (by decide) (by decide) (by decide) (fun r v q => ?_)
  obtain ⟨rfl, hw, hx, hm⟩ := hb.x q
  refine kl_aload_n dL_law_920 rfl ?_
  refine kl_arg 1 dL_law_921 dL_law_922 dL_law_923 rfl dL_law_924 dL_law_925 (by omega) hN ?_
  refine kl_arg 2 dL_law_926 dL_law_927 dL_law_928 rfl dL_law_929 dL_law_930 (by omega) hN ?_
  refine kl_callV [.int (xs (i + 1)), .int (xs (i + 2))] dL_law_931 lL_87 wX12_entryIs (qX12_entryIs hw hm hb.2.2.2 _ _) (kw_rcv hw rfl rfl kC12) rfl rfl (by decide) (by decide) (by decide) (fun r v2 q => ?_)
  obtain ⟨rfl, hb2⟩ := kBoth.m hx (kentryIs_ok hb.2.2.2 _ _) q
  exact kl_icmp_eq dL_law_934 1608 (by decide) (fun _ => nx _ _ hb2) (fun h => absurd rfl h)
/-- as -/
theorem kl_c17 {w : KW} {l : Launch} {nm : String} {i : Nat} {u : KMem} {xs : Nat → Int32} {N : Nat} {a : KA} (hb : kBoth a u) (hi : i + 6 ≤ N) (hN : N < 1000) (nx : ∀ (a2 : KA) (v : KMem), kBoth a2 v → KL w l (kL nm) 800 0 0 1608 (kl_ls i) [] v xs N) : KL w l (kL nm) 800 0 0 939 (kl_ls i) [] u xs N := by
  refine kl_aload_n dL_law_939 rfl ?_
  refine kl_arg 1 dL_law_940 dL_law_941 dL_law_942 rfl dL_law_943 dL_law_944 (by omega) hN ?_
  refine kl_arg 2 dL_law_945 dL_law_946 dL_law_947 rfl dL_law_948 dL_law_949 (by omega) hN ?_
  refine kl_callV [.int (xs (i + 1)), .int (xs (i + 2))] dL_law_950 lL_88 wX11_as (qX11_as hb.1 hb.2.1 hb.2.2.2 _ _) (kw_rcv hb.1 rfl rfl kC11) rfl rfl (by decide) (by decide) (by decide) (fun r v q => ?_)
  obtain ⟨rfl, hw, hx, hm⟩ := hb.x q
  refine kl_aload_n dL_law_953 rfl ?_
  refine kl_arg 1 dL_law_954 dL_law_955 dL_law_956 rfl dL_law_957 dL_law_958 (by omega) hN ?_
  refine kl_arg 2 dL_law_959 dL_law_960 dL_law_961 rfl dL_law_962 dL_law_963 (by omega) hN ?_
  refine kl_callV [.int (xs (i + 1)), .int (xs (i + 2))] dL_law_964 lL_91 wX12_as (qX12_as hw hm hb.2.2.2 _ _) (kw_rcv hw rfl rfl kC12) rfl rfl (by decide) (by decide) (by decide) (fun r v2 q => ?_)
  obtain ⟨rfl, hb2⟩ := kBoth.m hx (kas_ok hb.2.2.2 _ _) q
  exact kl_icmp_eq dL_law_967 1608 (by decide) (fun _ => nx _ _ hb2) (fun h => absurd rfl h)
/-- late -/
theorem kl_c18 {w : KW} {l : Launch} {nm : String} {i : Nat} {u : KMem} {xs : Nat → Int32} {N : Nat} {a : KA} (hb : kBoth a u) (hi : i + 6 ≤ N) (hN : N < 1000) (nx : ∀ (a2 : KA) (v : KMem), kBoth a2 v → KL w l (kL nm) 800 0 0 1608 (kl_ls i) [] v xs N) : KL w l (kL nm) 800 0 0 972 (kl_ls i) [] u xs N := by
  refine kl_aload_n dL_law_972 rfl ?_
  refine kl_arg 1 dL_law_973 dL_law_974 dL_law_975 rfl dL_law_976 dL_law_977 (by omega) hN ?_
  refine kl_arg 2 dL_law_978 dL_law_979 dL_law_980 rfl dL_law_981 dL_law_982 (by omega) hN ?_
  refine kl_callV [.int (xs (i + 1)), .int (xs (i + 2))] dL_law_983 lL_92 wX11_late (qX11_late hb.1 hb.2.1 hb.2.2.2 _ _) (kw_rcv hb.1 rfl rfl kC11) rfl rfl (by decide) (by decide) (by decide) (fun r v q => ?_)
  obtain ⟨rfl, hw, hx, hm⟩ := hb.x q
  refine kl_aload_n dL_law_986 rfl ?_
  refine kl_arg 1 dL_law_987 dL_law_988 dL_law_989 rfl dL_law_990 dL_law_991 (by omega) hN ?_
  refine kl_arg 2 dL_law_992 dL_law_993 dL_law_994 rfl dL_law_995 dL_law_996 (by omega) hN ?_
  refine kl_callV [.int (xs (i + 1)), .int (xs (i + 2))] dL_law_997 lL_95 wX12_late (qX12_late hw hm hb.2.2.2 _ _) (kw_rcv hw rfl rfl kC12) rfl rfl (by decide) (by decide) (by decide) (fun r v2 q => ?_)
  obtain ⟨rfl, hb2⟩ := kBoth.m hx (klate_ok hb.2.2.2 _ _) q
  exact kl_icmp_eq dL_law_1000 1608 (by decide) (fun _ => nx _ _ hb2) (fun h => absurd rfl h)
/-- position -/
theorem kl_c19 {w : KW} {l : Launch} {nm : String} {i : Nat} {u : KMem} {xs : Nat → Int32} {N : Nat} {a : KA} (hb : kBoth a u) (hi : i + 6 ≤ N) (hN : N < 1000) (nx : ∀ (a2 : KA) (v : KMem), kBoth a2 v → KL w l (kL nm) 800 0 0 1608 (kl_ls i) [] v xs N) : KL w l (kL nm) 800 0 0 1005 (kl_ls i) [] u xs N := by
  refine kl_aload_n dL_law_1005 rfl ?_
  refine kl_arg 1 dL_law_1006 dL_law_1007 dL_law_1008 rfl dL_law_1009 dL_law_1010 (by omega) hN ?_
  refine kl_arg 2 dL_law_1011 dL_law_1012 dL_law_1013 rfl dL_law_1014 dL_law_1015 (by omega) hN ?_
  refine kl_callV [.int (xs (i + 1)), .int (xs (i + 2))] dL_law_1016 lL_96 wX11_position (qX11_position hb.1 hb.2.1 hb.2.2.2 _ _) (kw_rcv hb.1 rfl rfl kC11) rfl rfl (by decide) (by decide) (by decide) (fun r v q => ?_)
  obtain ⟨rfl, hw, hx, hm⟩ := hb.x q
  refine kl_aload_n dL_law_1019 rfl ?_
  refine kl_arg 1 dL_law_1020 dL_law_1021 dL_law_1022 rfl dL_law_1023 dL_law_1024 (by omega) hN ?_
  refine kl_arg 2 dL_law_1025 dL_law_1026 dL_law_1027 rfl dL_law_1028 dL_law_1029 (by omega) hN ?_
  refine kl_callV [.int (xs (i + 1)), .int (xs (i + 2))] dL_law_1030 lL_99 wX12_position (qX12_position hw hm hb.2.2.2 _ _) (kw_rcv hw rfl rfl kC12) rfl rfl (by decide) (by decide) (by decide) (fun r v2 q => ?_)
  obtain ⟨rfl, hb2⟩ := kBoth.m hx (kposition_ok hb.2.2.2 _ _) q
  exact kl_icmp_eq dL_law_1033 1608 (by decide) (fun _ => nx _ _ hb2) (fun h => absurd rfl h)
/-- held -/
theorem kl_c20 {w : KW} {l : Launch} {nm : String} {i : Nat} {u : KMem} {xs : Nat → Int32} {N : Nat} {a : KA} (hb : kBoth a u) (hi : i + 6 ≤ N) (hN : N < 1000) (nx : ∀ (a2 : KA) (v : KMem), kBoth a2 v → KL w l (kL nm) 800 0 0 1608 (kl_ls i) [] v xs N) : KL w l (kL nm) 800 0 0 1038 (kl_ls i) [] u xs N := by
  refine kl_aload_n dL_law_1038 rfl ?_
  refine kl_arg 1 dL_law_1039 dL_law_1040 dL_law_1041 rfl dL_law_1042 dL_law_1043 (by omega) hN ?_
  refine kl_callV [.int (xs (i + 1))] dL_law_1044 lL_100 wX11_held (qX11_held hb.1 hb.2.1 hb.2.2.2 _) (kw_rcv hb.1 rfl rfl kC11) rfl rfl (by decide) (by decide) (by decide) (fun r v q => ?_)
  obtain ⟨rfl, hw, hx, hm⟩ := hb.x q
  refine kl_aload_n dL_law_1047 rfl ?_
  refine kl_arg 1 dL_law_1048 dL_law_1049 dL_law_1050 rfl dL_law_1051 dL_law_1052 (by omega) hN ?_
  refine kl_callV [.int (xs (i + 1))] dL_law_1053 lL_104 wX12_held (qX12_held hw hm hb.2.2.2 _) (kw_rcv hw rfl rfl kC12) rfl rfl (by decide) (by decide) (by decide) (fun r v2 q => ?_)
  obtain ⟨rfl, hb2⟩ := kBoth.m hx (kheld_ok hb.2.2.2 _) q
  exact kl_icmp_eq dL_law_1056 1608 (by decide) (fun _ => nx _ _ hb2) (fun h => absurd rfl h)
/-- payments -/
theorem kl_c21 {w : KW} {l : Launch} {nm : String} {i : Nat} {u : KMem} {xs : Nat → Int32} {N : Nat} {a : KA} (hb : kBoth a u) (hi : i + 6 ≤ N) (hN : N < 1000) (nx : ∀ (a2 : KA) (v : KMem), kBoth a2 v → KL w l (kL nm) 800 0 0 1608 (kl_ls i) [] v xs N) : KL w l (kL nm) 800 0 0 1061 (kl_ls i) [] u xs N := by
  refine kl_aload_n dL_law_1061 rfl ?_
  refine kl_arg 1 dL_law_1062 dL_law_1063 dL_law_1064 rfl dL_law_1065 dL_law_1066 (by omega) hN ?_
  refine kl_callV [.int (xs (i + 1))] dL_law_1067 lL_105 wX11_payments (qX11_payments hb.1 hb.2.1 hb.2.2.2 _) (kw_rcv hb.1 rfl rfl kC11) rfl rfl (by decide) (by decide) (by decide) (fun r v q => ?_)
  obtain ⟨rfl, hw, hx, hm⟩ := hb.x q
  refine kl_aload_n dL_law_1070 rfl ?_
  refine kl_arg 1 dL_law_1071 dL_law_1072 dL_law_1073 rfl dL_law_1074 dL_law_1075 (by omega) hN ?_
  refine kl_callV [.int (xs (i + 1))] dL_law_1076 lL_108 wX12_payments (qX12_payments hw hm hb.2.2.2 _) (kw_rcv hw rfl rfl kC12) rfl rfl (by decide) (by decide) (by decide) (fun r v2 q => ?_)
  obtain ⟨rfl, hb2⟩ := kBoth.m hx (kpayments_ok hb.2.2.2 _) q
  exact kl_icmp_eq dL_law_1079 1608 (by decide) (fun _ => nx _ _ hb2) (fun h => absurd rfl h)
/-- draws -/
theorem kl_c22 {w : KW} {l : Launch} {nm : String} {i : Nat} {u : KMem} {xs : Nat → Int32} {N : Nat} {a : KA} (hb : kBoth a u) (hi : i + 6 ≤ N) (hN : N < 1000) (nx : ∀ (a2 : KA) (v : KMem), kBoth a2 v → KL w l (kL nm) 800 0 0 1608 (kl_ls i) [] v xs N) : KL w l (kL nm) 800 0 0 1084 (kl_ls i) [] u xs N := by
  refine kl_aload_n dL_law_1084 rfl ?_
  refine kl_arg 1 dL_law_1085 dL_law_1086 dL_law_1087 rfl dL_law_1088 dL_law_1089 (by omega) hN ?_
  refine kl_callV [.int (xs (i + 1))] dL_law_1090 lL_109 wX11_draws (qX11_draws_o hb.1 hb.2.1 hb.2.2.2 _) (kw_rcv hb.1 rfl rfl kC11) rfl rfl (by decide) (by decide) (by decide) (fun r v q => ?_)
  obtain ⟨rfl, hw, hx, hm⟩ := hb.x q
  refine kl_aload_n dL_law_1093 rfl ?_
  refine kl_arg 1 dL_law_1094 dL_law_1095 dL_law_1096 rfl dL_law_1097 dL_law_1098 (by omega) hN ?_
  refine kl_callV [.int (xs (i + 1))] dL_law_1099 lL_112 wX12_draws (qX12_draws_o hw hm hb.2.2.2 _) (kw_rcv hw rfl rfl kC12) rfl rfl (by decide) (by decide) (by decide) (fun r v2 q => ?_)
  obtain ⟨rfl, hb2⟩ := kBoth.m hx (kdraws_ok hb.2.2.2 _) q
  exact kl_icmp_eq dL_law_1102 1608 (by decide) (fun _ => nx _ _ hb2) (fun h => absurd rfl h)
/-- panel -/
theorem kl_c23 {w : KW} {l : Launch} {nm : String} {i : Nat} {u : KMem} {xs : Nat → Int32} {N : Nat} {a : KA} (hb : kBoth a u) (hi : i + 6 ≤ N) (hN : N < 1000) (nx : ∀ (a2 : KA) (v : KMem), kBoth a2 v → KL w l (kL nm) 800 0 0 1608 (kl_ls i) [] v xs N) : KL w l (kL nm) 800 0 0 1107 (kl_ls i) [] u xs N := by
  refine kl_aload_n dL_law_1107 rfl ?_
  refine kl_arg 1 dL_law_1108 dL_law_1109 dL_law_1110 rfl dL_law_1111 dL_law_1112 (by omega) hN ?_
  refine kl_callV [.int (xs (i + 1))] dL_law_1113 lL_113 wX11_panel (qX11_panel hb.1 hb.2.1 hb.2.2.2 _) (kw_rcv hb.1 rfl rfl kC11) rfl rfl (by decide) (by decide) (by decide) (fun r v q => ?_)
  obtain ⟨rfl, hw, hx, hm⟩ := hb.x q
  refine kl_aload_n dL_law_1116 rfl ?_
  refine kl_arg 1 dL_law_1117 dL_law_1118 dL_law_1119 rfl dL_law_1120 dL_law_1121 (by omega) hN ?_
  refine kl_callV [.int (xs (i + 1))] dL_law_1122 lL_116 wX12_panel (qX12_panel hw hm hb.2.2.2 _) (kw_rcv hw rfl rfl kC12) rfl rfl (by decide) (by decide) (by decide) (fun r v2 q => ?_)
  obtain ⟨rfl, hb2⟩ := kBoth.m hx (kpanel_ok hb.2.2.2 _) q
  exact kl_icmp_eq dL_law_1125 1608 (by decide) (fun _ => nx _ _ hb2) (fun h => absurd rfl h)
/-- like -/
theorem kl_c24 {w : KW} {l : Launch} {nm : String} {i : Nat} {u : KMem} {xs : Nat → Int32} {N : Nat} {a : KA} (hb : kBoth a u) (hi : i + 6 ≤ N) (hN : N < 1000) (nx : ∀ (a2 : KA) (v : KMem), kBoth a2 v → KL w l (kL nm) 800 0 0 1608 (kl_ls i) [] v xs N) : KL w l (kL nm) 800 0 0 1130 (kl_ls i) [] u xs N := by
  refine kl_aload_n dL_law_1130 rfl ?_
  refine kl_arg 1 dL_law_1131 dL_law_1132 dL_law_1133 rfl dL_law_1134 dL_law_1135 (by omega) hN ?_
  refine kl_arg 2 dL_law_1136 dL_law_1137 dL_law_1138 rfl dL_law_1139 dL_law_1140 (by omega) hN ?_
  refine kl_arg 3 dL_law_1141 dL_law_1142 dL_law_1143 rfl dL_law_1144 dL_law_1145 (by omega) hN ?_
  refine kl_callV [.int (xs (i + 1)), .int (xs (i + 2)), .int (xs (i + 3))] dL_law_1146 lL_117 wX11_like (qX11_like hb.1 hb.2.1 hb.2.2.2 _ _ _) (kw_rcv hb.1 rfl rfl kC11) rfl rfl (by decide) (by decide) (by decide) (fun r v q => ?_)
  obtain ⟨rfl, hw, hx, hm⟩ := hb.x q
  refine kl_aload_n dL_law_1149 rfl ?_
  refine kl_arg 1 dL_law_1150 dL_law_1151 dL_law_1152 rfl dL_law_1153 dL_law_1154 (by omega) hN ?_
  refine kl_arg 2 dL_law_1155 dL_law_1156 dL_law_1157 rfl dL_law_1158 dL_law_1159 (by omega) hN ?_
  refine kl_arg 3 dL_law_1160 dL_law_1161 dL_law_1162 rfl dL_law_1163 dL_law_1164 (by omega) hN ?_
  refine kl_callV [.int (xs (i + 1)), .int (xs (i + 2)), .int (xs (i + 3))] dL_law_1165 lL_120 wX12_like (qX12_like hw hm hb.2.2.2 _ _ _) (kw_rcv hw rfl rfl kC12) rfl rfl (by decide) (by decide) (by decide) (fun r v2 q => ?_)
  obtain ⟨rfl, hb2⟩ := kBoth.m hx (klike_ok hb.2.2.2 _ _ _) q
  exact kl_icmp_eq dL_law_1168 1608 (by decide) (fun _ => nx _ _ hb2) (fun h => absurd rfl h)
/-- ring -/
theorem kl_c25 {w : KW} {l : Launch} {nm : String} {i : Nat} {u : KMem} {xs : Nat → Int32} {N : Nat} {a : KA} (hb : kBoth a u) (hi : i + 6 ≤ N) (hN : N < 1000) (nx : ∀ (a2 : KA) (v : KMem), kBoth a2 v → KL w l (kL nm) 800 0 0 1608 (kl_ls i) [] v xs N) : KL w l (kL nm) 800 0 0 1173 (kl_ls i) [] u xs N := by
  refine kl_aload_n dL_law_1173 rfl ?_
  refine kl_arg 1 dL_law_1174 dL_law_1175 dL_law_1176 rfl dL_law_1177 dL_law_1178 (by omega) hN ?_
  refine kl_callV [.int (xs (i + 1))] dL_law_1179 lL_121 wX11_ring (qX11_ring hb.1 hb.2.1 hb.2.2.2 _) (kw_rcv hb.1 rfl rfl kC11) rfl rfl (by decide) (by decide) (by decide) (fun r v q => ?_)
  obtain ⟨rfl, hw, hx, hm⟩ := hb.x q
  refine kl_aload_n dL_law_1182 rfl ?_
  refine kl_arg 1 dL_law_1183 dL_law_1184 dL_law_1185 rfl dL_law_1186 dL_law_1187 (by omega) hN ?_
  refine kl_callV [.int (xs (i + 1))] dL_law_1188 lL_124 wX12_ring (qX12_ring hw hm hb.2.2.2 _) (kw_rcv hw rfl rfl kC12) rfl rfl (by decide) (by decide) (by decide) (fun r v2 q => ?_)
  obtain ⟨rfl, hb2⟩ := kBoth.m hx (kring_ok hb.2.2.2 _) q
  exact kl_icmp_eq dL_law_1191 1608 (by decide) (fun _ => nx _ _ hb2) (fun h => absurd rfl h)
/-- rings -/
theorem kl_c26 {w : KW} {l : Launch} {nm : String} {i : Nat} {u : KMem} {xs : Nat → Int32} {N : Nat} {a : KA} (hb : kBoth a u) (hi : i + 6 ≤ N) (hN : N < 1000) (nx : ∀ (a2 : KA) (v : KMem), kBoth a2 v → KL w l (kL nm) 800 0 0 1608 (kl_ls i) [] v xs N) : KL w l (kL nm) 800 0 0 1196 (kl_ls i) [] u xs N := by
  refine kl_aload_n dL_law_1196 rfl ?_
  refine kl_arg 1 dL_law_1197 dL_law_1198 dL_law_1199 rfl dL_law_1200 dL_law_1201 (by omega) hN ?_
  refine kl_callV [.int (xs (i + 1))] dL_law_1202 lL_125 wX11_rings (qX11_rings hb.1 hb.2.1 hb.2.2.2 _) (kw_rcv hb.1 rfl rfl kC11) rfl rfl (by decide) (by decide) (by decide) (fun r v q => ?_)
  obtain ⟨rfl, hw, hx, hm⟩ := hb.x q
  refine kl_aload_n dL_law_1205 rfl ?_
  refine kl_arg 1 dL_law_1206 dL_law_1207 dL_law_1208 rfl dL_law_1209 dL_law_1210 (by omega) hN ?_
  refine kl_callV [.int (xs (i + 1))] dL_law_1211 lL_128 wX12_rings (qX12_rings hw hm hb.2.2.2 _) (kw_rcv hw rfl rfl kC12) rfl rfl (by decide) (by decide) (by decide) (fun r v2 q => ?_)
  obtain ⟨rfl, hb2⟩ := kBoth.m hx (krings_ok hb.2.2.2 _) q
  exact kl_icmp_eq dL_law_1214 1608 (by decide) (fun _ => nx _ _ hb2) (fun h => absurd rfl h)
/-- core -/
theorem kl_c27 {w : KW} {l : Launch} {nm : String} {i : Nat} {u : KMem} {xs : Nat → Int32} {N : Nat} {a : KA} (hb : kBoth a u) (hi : i + 6 ≤ N) (hN : N < 1000) (nx : ∀ (a2 : KA) (v : KMem), kBoth a2 v → KL w l (kL nm) 800 0 0 1608 (kl_ls i) [] v xs N) : KL w l (kL nm) 800 0 0 1219 (kl_ls i) [] u xs N := by
  refine kl_aload_n dL_law_1219 rfl ?_
  refine kl_callV [] dL_law_1220 lL_129 wX11_core (qX11_core hb.1 hb.2.1 hb.2.2.2) (kw_rcv hb.1 rfl rfl kC11) rfl rfl (by decide) (by decide) (by decide) (fun r v q => ?_)
  obtain ⟨rfl, hw, hx, hm⟩ := hb.x q
  refine kl_aload_n dL_law_1223 rfl ?_
  refine kl_callV [] dL_law_1224 lL_133 wX12_core (qX12_core hw hm hb.2.2.2) (kw_rcv hw rfl rfl kC12) rfl rfl (by decide) (by decide) (by decide) (fun r v2 q => ?_)
  obtain ⟨rfl, hb2⟩ := kBoth.m hx (kcore_ok hb.2.2.2) q
  exact kl_icmp_eq dL_law_1227 1608 (by decide) (fun _ => nx _ _ hb2) (fun h => absurd rfl h)
/-- chain -/
theorem kl_c28 {w : KW} {l : Launch} {nm : String} {i : Nat} {u : KMem} {xs : Nat → Int32} {N : Nat} {a : KA} (hb : kBoth a u) (hi : i + 6 ≤ N) (hN : N < 1000) (nx : ∀ (a2 : KA) (v : KMem), kBoth a2 v → KL w l (kL nm) 800 0 0 1608 (kl_ls i) [] v xs N) : KL w l (kL nm) 800 0 0 1232 (kl_ls i) [] u xs N := by
  refine kl_aload_n dL_law_1232 rfl ?_
  refine kl_arg 1 dL_law_1233 dL_law_1234 dL_law_1235 rfl dL_law_1236 dL_law_1237 (by omega) hN ?_
  refine kl_arg 2 dL_law_1238 dL_law_1239 dL_law_1240 rfl dL_law_1241 dL_law_1242 (by omega) hN ?_
  refine kl_arg 3 dL_law_1243 dL_law_1244 dL_law_1245 rfl dL_law_1246 dL_law_1247 (by omega) hN ?_
  refine kl_callV [.int (xs (i + 1)), .int (xs (i + 2)), .int (xs (i + 3))] dL_law_1248 lL_134 wX11_chain (qX11_chain hb.1 hb.2.1 hb.2.2.2 _ _ _) (kw_rcv hb.1 rfl rfl kC11) rfl rfl (by decide) (by decide) (by decide) (fun r v q => ?_)
  obtain ⟨rfl, hw, hx, hm⟩ := hb.x q
  refine kl_aload_n dL_law_1251 rfl ?_
  refine kl_arg 1 dL_law_1252 dL_law_1253 dL_law_1254 rfl dL_law_1255 dL_law_1256 (by omega) hN ?_
  refine kl_arg 2 dL_law_1257 dL_law_1258 dL_law_1259 rfl dL_law_1260 dL_law_1261 (by omega) hN ?_
  refine kl_arg 3 dL_law_1262 dL_law_1263 dL_law_1264 rfl dL_law_1265 dL_law_1266 (by omega) hN ?_
  refine kl_callV [.int (xs (i + 1)), .int (xs (i + 2)), .int (xs (i + 3))] dL_law_1267 lL_137 wX12_chain (qX12_chain hw hm hb.2.2.2 _ _ _) (kw_rcv hw rfl rfl kC12) rfl rfl (by decide) (by decide) (by decide) (fun r v2 q => ?_)
  obtain ⟨rfl, hb2⟩ := kBoth.m hx (kchain_ok hb.2.2.2 _ _ _) q
  exact kl_icmp_eq dL_law_1270 1608 (by decide) (fun _ => nx _ _ hb2) (fun h => absurd rfl h)
/-- voice -/
theorem kl_c29 {w : KW} {l : Launch} {nm : String} {i : Nat} {u : KMem} {xs : Nat → Int32} {N : Nat} {a : KA} (hb : kBoth a u) (hi : i + 6 ≤ N) (hN : N < 1000) (nx : ∀ (a2 : KA) (v : KMem), kBoth a2 v → KL w l (kL nm) 800 0 0 1608 (kl_ls i) [] v xs N) : KL w l (kL nm) 800 0 0 1275 (kl_ls i) [] u xs N := by
  refine kl_aload_n dL_law_1275 rfl ?_
  refine kl_arg 1 dL_law_1276 dL_law_1277 dL_law_1278 rfl dL_law_1279 dL_law_1280 (by omega) hN ?_
  refine kl_arg 2 dL_law_1281 dL_law_1282 dL_law_1283 rfl dL_law_1284 dL_law_1285 (by omega) hN ?_
  refine kl_arg 3 dL_law_1286 dL_law_1287 dL_law_1288 rfl dL_law_1289 dL_law_1290 (by omega) hN ?_
  refine kl_callV [.int (xs (i + 1)), .int (xs (i + 2)), .int (xs (i + 3))] dL_law_1291 lL_138 wX11_voice (qX11_voice hb.1 hb.2.1 hb.2.2.2 _ _ _) (kw_rcv hb.1 rfl rfl kC11) rfl rfl (by decide) (by decide) (by decide) (fun r v q => ?_)
  obtain ⟨rfl, hw, hx, hm⟩ := hb.x q
  refine kl_aload_n dL_law_1294 rfl ?_
  refine kl_arg 1 dL_law_1295 dL_law_1296 dL_law_1297 rfl dL_law_1298 dL_law_1299 (by omega) hN ?_
  refine kl_arg 2 dL_law_1300 dL_law_1301 dL_law_1302 rfl dL_law_1303 dL_law_1304 (by omega) hN ?_
  refine kl_arg 3 dL_law_1305 dL_law_1306 dL_law_1307 rfl dL_law_1308 dL_law_1309 (by omega) hN ?_
  refine kl_callV [.int (xs (i + 1)), .int (xs (i + 2)), .int (xs (i + 3))] dL_law_1310 lL_141 wX12_voice (qX12_voice hw hm hb.2.2.2 _ _ _) (kw_rcv hw rfl rfl kC12) rfl rfl (by decide) (by decide) (by decide) (fun r v2 q => ?_)
  obtain ⟨rfl, hb2⟩ := kBoth.m hx (kvoice_ok hb.2.2.2 _ _ _) q
  exact kl_icmp_eq dL_law_1313 1608 (by decide) (fun _ => nx _ _ hb2) (fun h => absurd rfl h)
/-- trace -/
theorem kl_c30 {w : KW} {l : Launch} {nm : String} {i : Nat} {u : KMem} {xs : Nat → Int32} {N : Nat} {a : KA} (hb : kBoth a u) (hi : i + 6 ≤ N) (hN : N < 1000) (nx : ∀ (a2 : KA) (v : KMem), kBoth a2 v → KL w l (kL nm) 800 0 0 1608 (kl_ls i) [] v xs N) : KL w l (kL nm) 800 0 0 1318 (kl_ls i) [] u xs N := by
  refine kl_aload_n dL_law_1318 rfl ?_
  refine kl_arg 1 dL_law_1319 dL_law_1320 dL_law_1321 rfl dL_law_1322 dL_law_1323 (by omega) hN ?_
  refine kl_callV [.int (xs (i + 1))] dL_law_1324 lL_142 wX11_trace (qX11_trace hb.1 hb.2.1 hb.2.2.2 _) (kw_rcv hb.1 rfl rfl kC11) rfl rfl (by decide) (by decide) (by decide) (fun r v q => ?_)
  obtain ⟨rfl, hw, hx, hm⟩ := hb.x q
  refine kl_aload_n dL_law_1327 rfl ?_
  refine kl_arg 1 dL_law_1328 dL_law_1329 dL_law_1330 rfl dL_law_1331 dL_law_1332 (by omega) hN ?_
  refine kl_callV [.int (xs (i + 1))] dL_law_1333 lL_145 wX12_trace (qX12_trace hw hm hb.2.2.2 _) (kw_rcv hw rfl rfl kC12) rfl rfl (by decide) (by decide) (by decide) (fun r v2 q => ?_)
  obtain ⟨rfl, hb2⟩ := kBoth.m hx (ktrace_ok hb.2.2.2 _) q
  exact kl_icmp_eq dL_law_1336 1608 (by decide) (fun _ => nx _ _ hb2) (fun h => absurd rfl h)
/-- sheet -/
theorem kl_c31 {w : KW} {l : Launch} {nm : String} {i : Nat} {u : KMem} {xs : Nat → Int32} {N : Nat} {a : KA} (hb : kBoth a u) (hi : i + 6 ≤ N) (hN : N < 1000) (nx : ∀ (a2 : KA) (v : KMem), kBoth a2 v → KL w l (kL nm) 800 0 0 1608 (kl_ls i) [] v xs N) : KL w l (kL nm) 800 0 0 1341 (kl_ls i) [] u xs N := by
  refine kl_aload_n dL_law_1341 rfl ?_
  refine kl_arg 1 dL_law_1342 dL_law_1343 dL_law_1344 rfl dL_law_1345 dL_law_1346 (by omega) hN ?_
  refine kl_arg 2 dL_law_1347 dL_law_1348 dL_law_1349 rfl dL_law_1350 dL_law_1351 (by omega) hN ?_
  refine kl_arg 3 dL_law_1352 dL_law_1353 dL_law_1354 rfl dL_law_1355 dL_law_1356 (by omega) hN ?_
  refine kl_callV [.int (xs (i + 1)), .int (xs (i + 2)), .int (xs (i + 3))] dL_law_1357 lL_146 wX11_sheet (qX11_sheet hb.1 hb.2.1 hb.2.2.2 _ _ _) (kw_rcv hb.1 rfl rfl kC11) rfl rfl (by decide) (by decide) (by decide) (fun r v q => ?_)
  obtain ⟨rfl, hw, hx, hm⟩ := hb.x q
  refine kl_aload_n dL_law_1360 rfl ?_
  refine kl_arg 1 dL_law_1361 dL_law_1362 dL_law_1363 rfl dL_law_1364 dL_law_1365 (by omega) hN ?_
  refine kl_arg 2 dL_law_1366 dL_law_1367 dL_law_1368 rfl dL_law_1369 dL_law_1370 (by omega) hN ?_
  refine kl_arg 3 dL_law_1371 dL_law_1372 dL_law_1373 rfl dL_law_1374 dL_law_1375 (by omega) hN ?_
  refine kl_callV [.int (xs (i + 1)), .int (xs (i + 2)), .int (xs (i + 3))] dL_law_1376 lL_149 wX12_sheet (qX12_sheet hw hm hb.2.2.2 _ _ _) (kw_rcv hw rfl rfl kC12) rfl rfl (by decide) (by decide) (by decide) (fun r v2 q => ?_)
  obtain ⟨rfl, hb2⟩ := kBoth.m hx (ksheet_ok hb.2.2.2 _ _ _) q
  exact kl_icmp_eq dL_law_1379 1608 (by decide) (fun _ => nx _ _ hb2) (fun h => absurd rfl h)
/-- put -/
theorem kl_c32 {w : KW} {l : Launch} {nm : String} {i : Nat} {u : KMem} {xs : Nat → Int32} {N : Nat} {a : KA} (hb : kBoth a u) (hi : i + 6 ≤ N) (hN : N < 1000) (nx : ∀ (a2 : KA) (v : KMem), kBoth a2 v → KL w l (kL nm) 800 0 0 1608 (kl_ls i) [] v xs N) : KL w l (kL nm) 800 0 0 1384 (kl_ls i) [] u xs N := by
  refine kl_aload_n dL_law_1384 rfl ?_
  refine kl_arg 1 dL_law_1385 dL_law_1386 dL_law_1387 rfl dL_law_1388 dL_law_1389 (by omega) hN ?_
  refine kl_arg 2 dL_law_1390 dL_law_1391 dL_law_1392 rfl dL_law_1393 dL_law_1394 (by omega) hN ?_
  refine kl_arg 3 dL_law_1395 dL_law_1396 dL_law_1397 rfl dL_law_1398 dL_law_1399 (by omega) hN ?_
  refine kl_callV [.int (xs (i + 1)), .int (xs (i + 2)), .int (xs (i + 3))] dL_law_1400 lL_150 wX11_put (qX11_put hb.1 hb.2.1 hb.2.2.2 _ _ _) (kw_rcv hb.1 rfl rfl kC11) rfl rfl (by decide) (by decide) (by decide) (fun r v q => ?_)
  obtain ⟨rfl, hw, hx, hm⟩ := hb.x q
  refine kl_aload_n dL_law_1403 rfl ?_
  refine kl_arg 1 dL_law_1404 dL_law_1405 dL_law_1406 rfl dL_law_1407 dL_law_1408 (by omega) hN ?_
  refine kl_arg 2 dL_law_1409 dL_law_1410 dL_law_1411 rfl dL_law_1412 dL_law_1413 (by omega) hN ?_
  refine kl_arg 3 dL_law_1414 dL_law_1415 dL_law_1416 rfl dL_law_1417 dL_law_1418 (by omega) hN ?_
  refine kl_callV [.int (xs (i + 1)), .int (xs (i + 2)), .int (xs (i + 3))] dL_law_1419 lL_153 wX12_put (qX12_put hw hm hb.2.2.2 _ _ _) (kw_rcv hw rfl rfl kC12) rfl rfl (by decide) (by decide) (by decide) (fun r v2 q => ?_)
  obtain ⟨rfl, hb2⟩ := kBoth.m hx (kput_ok hb.2.2.2 _ _ _) q
  exact kl_icmp_eq dL_law_1422 1608 (by decide) (fun _ => nx _ _ hb2) (fun h => absurd rfl h)
/-- move -/
theorem kl_c33 {w : KW} {l : Launch} {nm : String} {i : Nat} {u : KMem} {xs : Nat → Int32} {N : Nat} {a : KA} (hb : kBoth a u) (hi : i + 6 ≤ N) (hN : N < 1000) (nx : ∀ (a2 : KA) (v : KMem), kBoth a2 v → KL w l (kL nm) 800 0 0 1608 (kl_ls i) [] v xs N) : KL w l (kL nm) 800 0 0 1427 (kl_ls i) [] u xs N := by
  refine kl_aload_n dL_law_1427 rfl ?_
  refine kl_arg 1 dL_law_1428 dL_law_1429 dL_law_1430 rfl dL_law_1431 dL_law_1432 (by omega) hN ?_
  refine kl_arg 2 dL_law_1433 dL_law_1434 dL_law_1435 rfl dL_law_1436 dL_law_1437 (by omega) hN ?_
  refine kl_arg 3 dL_law_1438 dL_law_1439 dL_law_1440 rfl dL_law_1441 dL_law_1442 (by omega) hN ?_
  refine kl_arg 4 dL_law_1443 dL_law_1444 dL_law_1445 rfl dL_law_1446 dL_law_1447 (by omega) hN ?_
  refine kl_arg 5 dL_law_1448 dL_law_1449 dL_law_1450 rfl dL_law_1451 dL_law_1452 (by omega) hN ?_
  refine kl_callV [.int (xs (i + 1)), .int (xs (i + 2)), .int (xs (i + 3)), .int (xs (i + 4)), .int (xs (i + 5))] dL_law_1453 lL_154 wX11_move (qX11_move hb.1 hb.2.1 hb.2.2.2 _ _ _ _ _) (kw_rcv hb.1 rfl rfl kC11) rfl rfl (by decide) (by decide) (by decide) (fun r v q => ?_)
  obtain ⟨rfl, hw, hx, hm⟩ := hb.x q
  refine kl_aload_n dL_law_1456 rfl ?_
  refine kl_arg 1 dL_law_1457 dL_law_1458 dL_law_1459 rfl dL_law_1460 dL_law_1461 (by omega) hN ?_
  refine kl_arg 2 dL_law_1462 dL_law_1463 dL_law_1464 rfl dL_law_1465 dL_law_1466 (by omega) hN ?_
  refine kl_arg 3 dL_law_1467 dL_law_1468 dL_law_1469 rfl dL_law_1470 dL_law_1471 (by omega) hN ?_
  refine kl_arg 4 dL_law_1472 dL_law_1473 dL_law_1474 rfl dL_law_1475 dL_law_1476 (by omega) hN ?_
  refine kl_arg 5 dL_law_1477 dL_law_1478 dL_law_1479 rfl dL_law_1480 dL_law_1481 (by omega) hN ?_
  refine kl_callV [.int (xs (i + 1)), .int (xs (i + 2)), .int (xs (i + 3)), .int (xs (i + 4)), .int (xs (i + 5))] dL_law_1482 lL_157 wX12_move (qX12_move hw hm hb.2.2.2 _ _ _ _ _) (kw_rcv hw rfl rfl kC12) rfl rfl (by decide) (by decide) (by decide) (fun r v2 q => ?_)
  obtain ⟨rfl, hb2⟩ := kBoth.m hx (kmove_ok hb.2.2.2 _ _ _ _ _) q
  exact kl_icmp_eq dL_law_1485 1608 (by decide) (fun _ => nx _ _ hb2) (fun h => absurd rfl h)
/-- image -/
theorem kl_c34 {w : KW} {l : Launch} {nm : String} {i : Nat} {u : KMem} {xs : Nat → Int32} {N : Nat} {a : KA} (hb : kBoth a u) (hi : i + 6 ≤ N) (hN : N < 1000) (nx : ∀ (a2 : KA) (v : KMem), kBoth a2 v → KL w l (kL nm) 800 0 0 1608 (kl_ls i) [] v xs N) : KL w l (kL nm) 800 0 0 1490 (kl_ls i) [] u xs N := by
  refine kl_aload_n dL_law_1490 rfl ?_
  refine kl_callV [] dL_law_1491 lL_158 wX11_image (qX11_image hb.1 hb.2.1 hb.2.2.2) (kw_rcv hb.1 rfl rfl kC11) rfl rfl (by decide) (by decide) (by decide) (fun r v q => ?_)
  obtain ⟨rfl, hw, hx, hm⟩ := hb.x q
  refine kl_aload_n dL_law_1494 rfl ?_
  refine kl_callV [] dL_law_1495 lL_161 wX12_image (qX12_image hw hm hb.2.2.2) (kw_rcv hw rfl rfl kC12) rfl rfl (by decide) (by decide) (by decide) (fun r v2 q => ?_)
  obtain ⟨rfl, hb2⟩ := kBoth.m hx (kimage_ok hb.2.2.2) q
  exact kl_icmp_eq dL_law_1498 1608 (by decide) (fun _ => nx _ _ hb2) (fun h => absurd rfl h)
/-- restore -/
theorem kl_c35 {w : KW} {l : Launch} {nm : String} {i : Nat} {u : KMem} {xs : Nat → Int32} {N : Nat} {a : KA} (hb : kBoth a u) (hi : i + 6 ≤ N) (hN : N < 1000) (nx : ∀ (a2 : KA) (v : KMem), kBoth a2 v → KL w l (kL nm) 800 0 0 1608 (kl_ls i) [] v xs N) : KL w l (kL nm) 800 0 0 1503 (kl_ls i) [] u xs N := by
  refine kl_aload_n dL_law_1503 rfl ?_
  refine kl_callV [] dL_law_1504 lL_162 wX11_restore (qX11_restore hb.1 hb.2.1 hb.2.2.2) (kw_rcv hb.1 rfl rfl kC11) rfl rfl (by decide) (by decide) (by decide) (fun r v q => ?_)
  obtain ⟨rfl, hw, hx, hm⟩ := hb.x q
  refine kl_aload_n dL_law_1507 rfl ?_
  refine kl_callV [] dL_law_1508 lL_165 wX12_restore (qX12_restore hw hm hb.2.2.2) (kw_rcv hw rfl rfl kC12) rfl rfl (by decide) (by decide) (by decide) (fun r v2 q => ?_)
  obtain ⟨rfl, hb2⟩ := kBoth.m hx (krestore_ok hb.2.2.2) q
  exact kl_icmp_eq dL_law_1511 1608 (by decide) (fun _ => nx _ _ hb2) (fun h => absurd rfl h)
/-- tell -/
theorem kl_c36 {w : KW} {l : Launch} {nm : String} {i : Nat} {u : KMem} {xs : Nat → Int32} {N : Nat} {a : KA} (hb : kBoth a u) (hi : i + 6 ≤ N) (hN : N < 1000) (nx : ∀ (a2 : KA) (v : KMem), kBoth a2 v → KL w l (kL nm) 800 0 0 1608 (kl_ls i) [] v xs N) : KL w l (kL nm) 800 0 0 1516 (kl_ls i) [] u xs N := by
  refine kl_aload_n dL_law_1516 rfl ?_
  refine kl_arg 1 dL_law_1517 dL_law_1518 dL_law_1519 rfl dL_law_1520 dL_law_1521 (by omega) hN ?_
  refine kl_callV [.int (xs (i + 1))] dL_law_1522 lL_166 wX11_tell (qX11_tell hb.1 hb.2.1 hb.2.2.2 _) (kw_rcv hb.1 rfl rfl kC11) rfl rfl (by decide) (by decide) (by decide) (fun r v q => ?_)
  obtain ⟨rfl, hw, hx, hm⟩ := hb.x q
  refine kl_aload_n dL_law_1525 rfl ?_
  refine kl_arg 1 dL_law_1526 dL_law_1527 dL_law_1528 rfl dL_law_1529 dL_law_1530 (by omega) hN ?_
  refine kl_callV [.int (xs (i + 1))] dL_law_1531 lL_169 wX12_tell (qX12_tell hw hm hb.2.2.2 _) (kw_rcv hw rfl rfl kC12) rfl rfl (by decide) (by decide) (by decide) (fun r v2 q => ?_)
  obtain ⟨rfl, hb2⟩ := kBoth.m hx (ktell_ok hb.2.2.2 _) q
  exact kl_icmp_eq dL_law_1534 1608 (by decide) (fun _ => nx _ _ hb2) (fun h => absurd rfl h)
/-- check -/
theorem kl_c37 {w : KW} {l : Launch} {nm : String} {i : Nat} {u : KMem} {xs : Nat → Int32} {N : Nat} {a : KA} (hb : kBoth a u) (hi : i + 6 ≤ N) (hN : N < 1000) (nx : ∀ (a2 : KA) (v : KMem), kBoth a2 v → KL w l (kL nm) 800 0 0 1608 (kl_ls i) [] v xs N) : KL w l (kL nm) 800 0 0 1539 (kl_ls i) [] u xs N := by
  refine kl_aload_n dL_law_1539 rfl ?_
  refine kl_arg 1 dL_law_1540 dL_law_1541 dL_law_1542 rfl dL_law_1543 dL_law_1544 (by omega) hN ?_
  refine kl_callV [.int (xs (i + 1))] dL_law_1545 lL_170 wX11_check (qX11_check hb.1 hb.2.1 hb.2.2.2 _) (kw_rcv hb.1 rfl rfl kC11) rfl rfl (by decide) (by decide) (by decide) (fun r v q => ?_)
  obtain ⟨rfl, hw, hx, hm⟩ := hb.x q
  refine kl_aload_n dL_law_1548 rfl ?_
  refine kl_arg 1 dL_law_1549 dL_law_1550 dL_law_1551 rfl dL_law_1552 dL_law_1553 (by omega) hN ?_
  refine kl_callV [.int (xs (i + 1))] dL_law_1554 lL_173 wX12_check (qX12_check hw hm hb.2.2.2 _) (kw_rcv hw rfl rfl kC12) rfl rfl (by decide) (by decide) (by decide) (fun r v2 q => ?_)
  obtain ⟨rfl, hb2⟩ := kBoth.m hx (kcheck_ok hb.2.2.2 _) q
  exact kl_icmp_eq dL_law_1557 1608 (by decide) (fun _ => nx _ _ hb2) (fun h => absurd rfl h)
/-- count -/
theorem kl_c38 {w : KW} {l : Launch} {nm : String} {i : Nat} {u : KMem} {xs : Nat → Int32} {N : Nat} {a : KA} (hb : kBoth a u) (hi : i + 6 ≤ N) (hN : N < 1000) (nx : ∀ (a2 : KA) (v : KMem), kBoth a2 v → KL w l (kL nm) 800 0 0 1608 (kl_ls i) [] v xs N) : KL w l (kL nm) 800 0 0 1562 (kl_ls i) [] u xs N := by
  refine kl_aload_n dL_law_1562 rfl ?_
  refine kl_arg 1 dL_law_1563 dL_law_1564 dL_law_1565 rfl dL_law_1566 dL_law_1567 (by omega) hN ?_
  refine kl_callV [.int (xs (i + 1))] dL_law_1568 lL_174 wX11_count (qX11_count hb.1 hb.2.1 hb.2.2.2 _) (kw_rcv hb.1 rfl rfl kC11) rfl rfl (by decide) (by decide) (by decide) (fun r v q => ?_)
  obtain ⟨rfl, hw, hx, hm⟩ := hb.x q
  refine kl_aload_n dL_law_1571 rfl ?_
  refine kl_arg 1 dL_law_1572 dL_law_1573 dL_law_1574 rfl dL_law_1575 dL_law_1576 (by omega) hN ?_
  refine kl_callV [.int (xs (i + 1))] dL_law_1577 lL_177 wX12_count (qX12_count hw hm hb.2.2.2 _) (kw_rcv hw rfl rfl kC12) rfl rfl (by decide) (by decide) (by decide) (fun r v2 q => ?_)
  obtain ⟨rfl, hb2⟩ := kBoth.m hx (kcount_ok hb.2.2.2 _) q
  exact kl_icmp_eq dL_law_1580 1608 (by decide) (fun _ => nx _ _ hb2) (fun h => absurd rfl h)
/-- told -/
theorem kl_c39 {w : KW} {l : Launch} {nm : String} {i : Nat} {u : KMem} {xs : Nat → Int32} {N : Nat} {a : KA} (hb : kBoth a u) (hi : i + 6 ≤ N) (hN : N < 1000) (nx : ∀ (a2 : KA) (v : KMem), kBoth a2 v → KL w l (kL nm) 800 0 0 1608 (kl_ls i) [] v xs N) : KL w l (kL nm) 800 0 0 1585 (kl_ls i) [] u xs N := by
  refine kl_aload_n dL_law_1585 rfl ?_
  refine kl_arg 1 dL_law_1586 dL_law_1587 dL_law_1588 rfl dL_law_1589 dL_law_1590 (by omega) hN ?_
  refine kl_callV [.int (xs (i + 1))] dL_law_1591 lL_178 wX11_told (qX11_told hb.1 hb.2.1 hb.2.2.2 _) (kw_rcv hb.1 rfl rfl kC11) rfl rfl (by decide) (by decide) (by decide) (fun r v q => ?_)
  obtain ⟨rfl, hw, hx, hm⟩ := hb.x q
  refine kl_aload_n dL_law_1594 rfl ?_
  refine kl_arg 1 dL_law_1595 dL_law_1596 dL_law_1597 rfl dL_law_1598 dL_law_1599 (by omega) hN ?_
  refine kl_callV [.int (xs (i + 1))] dL_law_1600 lL_181 wX12_told (qX12_told hw hm hb.2.2.2 _) (kw_rcv hw rfl rfl kC12) rfl rfl (by decide) (by decide) (by decide) (fun r v2 q => ?_)
  obtain ⟨rfl, hb2⟩ := kBoth.m hx (ktold_ok hb.2.2.2 _) q
  exact kl_icmp_eq dL_law_1603 1608 (by decide) (fun _ => nx _ _ hb2) (fun h => absurd rfl h)
theorem kl_and (x : Int32) : ∃ n, n < 64 ∧ x &&& 63 = nI n := by
  have e : x = nI x.toBitVec.toNat := kb_ext fun i hi => by rw [kb_n _ hi]; rfl
  refine ⟨x.toBitVec.toNat &&& 63, Nat.and_lt_two_pow (n := 6) _ (by decide), ?_⟩
  have h := kn_and x.toBitVec.toNat 63
  rw [← e] at h
  exact h
theorem kl_six : ∀ n, n < 385 → (nI n - 6).toInt = (n : Int) - 6 := by decide +kernel
set_option maxHeartbeats 4000000 in
theorem kl_loop {w : KW} {l : Launch} {nm : String} {xs : Nat → Int32} {N : Nat} (hN : N ≤ 384) : ∀ (f i : Nat) (a : KA) (u : KMem), i ≤ N + 6 → N < i + 6 * (f + 1) → kBoth a u → KL w l (kL nm) 800 0 0 18 (kl_ls i) [] u xs N := by
  intro f
  induction f with
  | zero =>
    intro i a u hi hf hb
    refine kl_iload_n dL_law_18 rfl (kl_aload_n dL_law_19 rfl (kl_slen dL_law_20 (kl_bipush dL_law_21 6 kb_6 (kl_isub dL_law_23 ?_))))
    refine kl_icmp_gt dL_law_24 1614 (by decide) (fun _ => ?_) (fun h => absurd (Int32.lt_iff_toInt_lt.mpr ?_) h)
    · exact kl_iconst dL_law_1614 1 ki_1 (kl_ret dL_law_1615 rfl rfl)
    · rw [kl_six N (by omega), nI_toInt (by omega)]
      omega
  | succ f ih =>
    intro i a u hi hf hb
    refine kl_iload_n dL_law_18 rfl (kl_aload_n dL_law_19 rfl (kl_slen dL_law_20 (kl_bipush dL_law_21 6 kb_6 (kl_isub dL_law_23 ?_))))
    refine kl_icmp_gt dL_law_24 1614 (by decide) (fun _ => ?_) (fun h => ?_)
    · exact kl_iconst dL_law_1614 1 ki_1 (kl_ret dL_law_1615 rfl rfl)
    have hle : i + 6 ≤ N := by
      refine Nat.not_lt.mp fun g => h (Int32.lt_iff_toInt_lt.mpr ?_)
      rw [kl_six N (by omega), nI_toInt (by omega)]
      omega
    have hN2 : N < 1000 := by omega
    have nx : ∀ (a2 : KA) (v : KMem), kBoth a2 v → KL w l (kL nm) 800 0 0 1608 (kl_ls i) [] v xs N := by
      intro a2 v hb2
      refine kl_iinc (ls2 := [_, _, _, _]) dL_law_1608 (nI (i + 6)) rfl (nI_add i 6) rfl rfl rfl rfl ?_
      refine kl_goto dL_law_1611 18 (by decide) ?_
      exact ih (i + 6) a2 v (by omega) (by omega) hb2
    refine kl_aload_n dL_law_27 rfl (kl_iload_n dL_law_28 rfl (kl_sld dL_law_29 rfl (by omega) hN2 (kl_bipush dL_law_30 63 kb_63 (kl_iand dL_law_32 ?_))))
    obtain ⟨n, hn, e⟩ := kl_and (xs i)
    rw [e]
    by_cases g : n < 40
    · rcases (show n = 0 ∨ n = 1 ∨ n = 2 ∨ n = 3 ∨ n = 4 ∨ n = 5 ∨ n = 6 ∨ n = 7 ∨ n = 8 ∨ n = 9 ∨ n = 10 ∨ n = 11 ∨ n = 12 ∨ n = 13 ∨ n = 14 ∨ n = 15 ∨ n = 16 ∨ n = 17 ∨ n = 18 ∨ n = 19 ∨ n = 20 ∨ n = 21 ∨ n = 22 ∨ n = 23 ∨ n = 24 ∨ n = 25 ∨ n = 26 ∨ n = 27 ∨ n = 28 ∨ n = 29 ∨ n = 30 ∨ n = 31 ∨ n = 32 ∨ n = 33 ∨ n = 34 ∨ n = 35 ∨ n = 36 ∨ n = 37 ∨ n = 38 ∨ n = 39 by omega) with rfl | rfl | rfl | rfl | rfl | rfl | rfl | rfl | rfl | rfl | rfl | rfl | rfl | rfl | rfl | rfl | rfl | rfl | rfl | rfl | rfl | rfl | rfl | rfl | rfl | rfl | rfl | rfl | rfl | rfl | rfl | rfl | rfl | rfl | rfl | rfl | rfl | rfl | rfl | rfl
      · exact kl_tableIn dL_law_33 208 (by decide) (by decide) rfl (by decide) (kl_c0 hb hle hN2 nx)
      · exact kl_tableIn dL_law_33 261 (by decide) (by decide) rfl (by decide) (kl_c1 hb hle hN2 nx)
      · exact kl_tableIn dL_law_33 294 (by decide) (by decide) rfl (by decide) (kl_c2 hb hle hN2 nx)
      · exact kl_tableIn dL_law_33 337 (by decide) (by decide) rfl (by decide) (kl_c3 hb hle hN2 nx)
      · exact kl_tableIn dL_law_33 380 (by decide) (by decide) rfl (by decide) (kl_c4 hb hle hN2 nx)
      · exact kl_tableIn dL_law_33 423 (by decide) (by decide) rfl (by decide) (kl_c5 hb hle hN2 nx)
      · exact kl_tableIn dL_law_33 466 (by decide) (by decide) rfl (by decide) (kl_c6 hb hle hN2 nx)
      · exact kl_tableIn dL_law_33 499 (by decide) (by decide) rfl (by decide) (kl_c7 hb hle hN2 nx)
      · exact kl_tableIn dL_law_33 542 (by decide) (by decide) rfl (by decide) (kl_c8 hb hle hN2 nx)
      · exact kl_tableIn dL_law_33 575 (by decide) (by decide) rfl (by decide) (kl_c9 hb hle hN2 nx)
      · exact kl_tableIn dL_law_33 618 (by decide) (by decide) rfl (by decide) (kl_c10 hb hle hN2 nx)
      · exact kl_tableIn dL_law_33 661 (by decide) (by decide) rfl (by decide) (kl_c11 hb hle hN2 nx)
      · exact kl_tableIn dL_law_33 724 (by decide) (by decide) rfl (by decide) (kl_c12 hb hle hN2 nx)
      · exact kl_tableIn dL_law_33 757 (by decide) (by decide) rfl (by decide) (kl_c13 hb hle hN2 nx)
      · exact kl_tableIn dL_law_33 790 (by decide) (by decide) rfl (by decide) (kl_c14 hb hle hN2 nx)
      · exact kl_tableIn dL_law_33 853 (by decide) (by decide) rfl (by decide) (kl_c15 hb hle hN2 nx)
      · exact kl_tableIn dL_law_33 906 (by decide) (by decide) rfl (by decide) (kl_c16 hb hle hN2 nx)
      · exact kl_tableIn dL_law_33 939 (by decide) (by decide) rfl (by decide) (kl_c17 hb hle hN2 nx)
      · exact kl_tableIn dL_law_33 972 (by decide) (by decide) rfl (by decide) (kl_c18 hb hle hN2 nx)
      · exact kl_tableIn dL_law_33 1005 (by decide) (by decide) rfl (by decide) (kl_c19 hb hle hN2 nx)
      · exact kl_tableIn dL_law_33 1038 (by decide) (by decide) rfl (by decide) (kl_c20 hb hle hN2 nx)
      · exact kl_tableIn dL_law_33 1061 (by decide) (by decide) rfl (by decide) (kl_c21 hb hle hN2 nx)
      · exact kl_tableIn dL_law_33 1084 (by decide) (by decide) rfl (by decide) (kl_c22 hb hle hN2 nx)
      · exact kl_tableIn dL_law_33 1107 (by decide) (by decide) rfl (by decide) (kl_c23 hb hle hN2 nx)
      · exact kl_tableIn dL_law_33 1130 (by decide) (by decide) rfl (by decide) (kl_c24 hb hle hN2 nx)
      · exact kl_tableIn dL_law_33 1173 (by decide) (by decide) rfl (by decide) (kl_c25 hb hle hN2 nx)
      · exact kl_tableIn dL_law_33 1196 (by decide) (by decide) rfl (by decide) (kl_c26 hb hle hN2 nx)
      · exact kl_tableIn dL_law_33 1219 (by decide) (by decide) rfl (by decide) (kl_c27 hb hle hN2 nx)
      · exact kl_tableIn dL_law_33 1232 (by decide) (by decide) rfl (by decide) (kl_c28 hb hle hN2 nx)
      · exact kl_tableIn dL_law_33 1275 (by decide) (by decide) rfl (by decide) (kl_c29 hb hle hN2 nx)
      · exact kl_tableIn dL_law_33 1318 (by decide) (by decide) rfl (by decide) (kl_c30 hb hle hN2 nx)
      · exact kl_tableIn dL_law_33 1341 (by decide) (by decide) rfl (by decide) (kl_c31 hb hle hN2 nx)
      · exact kl_tableIn dL_law_33 1384 (by decide) (by decide) rfl (by decide) (kl_c32 hb hle hN2 nx)
      · exact kl_tableIn dL_law_33 1427 (by decide) (by decide) rfl (by decide) (kl_c33 hb hle hN2 nx)
      · exact kl_tableIn dL_law_33 1490 (by decide) (by decide) rfl (by decide) (kl_c34 hb hle hN2 nx)
      · exact kl_tableIn dL_law_33 1503 (by decide) (by decide) rfl (by decide) (kl_c35 hb hle hN2 nx)
      · exact kl_tableIn dL_law_33 1516 (by decide) (by decide) rfl (by decide) (kl_c36 hb hle hN2 nx)
      · exact kl_tableIn dL_law_33 1539 (by decide) (by decide) rfl (by decide) (kl_c37 hb hle hN2 nx)
      · exact kl_tableIn dL_law_33 1562 (by decide) (by decide) rfl (by decide) (kl_c38 hb hle hN2 nx)
      · exact kl_tableIn dL_law_33 1585 (by decide) (by decide) rfl (by decide) (kl_c39 hb hle hN2 nx)
    · exact kl_tableOut dL_law_33 1608 (Or.inr (by rw [nI_toInt (by omega)]; omega)) (by decide) (nx a u hb)
