section XR2
variable {E : xt_Ev} {cx : xt_Cx} {b L i : Nat} {xs : Nat → Int32} {Z : State → Prop} {k n : Nat} {S : xt_St}
set_option maxRecDepth 20000 in
set_option maxHeartbeats 2000000 in
theorem la_size (A : xt_LA E cx b L xs) (hi : i + 6 ≤ L) (hk : k + 1 ≤ 601024 ∧ n + 6 ≤ 7293034) (hI : xt_Inv S) (kk : ∀ S9, xt_Inv S9 → xt_X E cx Z (k + 1) (n + 6) 2308 (xt_lv9 E b i none none none) [] S9) : xt_X E cx Z k n 184 (xt_lv9 E b i none none none) [] S := by
  obtain ⟨q, P1, hq, hW, hM⟩ := st_size (E := E) (l := cx.2.1) A.2.2.2.2.2 hI (xs (i + 1)) (xs (i + 2))
  refine xt_aload_n A.1 dL_law_184 rfl ?_
  refine xt_arg A 1 (by omega) (by decide) dL_law_185 dL_law_186 dL_law_188 dL_law_189 dL_law_190 ?_
  refine xt_arg A 2 (by omega) (by decide) dL_law_191 dL_law_192 dL_law_194 dL_law_195 dL_law_196 ?_
  refine xt_aload_n A.1 dL_law_197 rfl ?_
  refine xt_callSH A.1 mh_L_size lkL_124 hW rfl ⟨Nat.le_of_ble_eq_true rfl, Nat.le_of_ble_eq_true rfl, hk.1, hk.2⟩ rfl (Nat.le_of_ble_eq_true rfl) dL_law_198 (fun v S1 h1 => ?_)
  obtain ⟨rfl, h1⟩ := h1
  show xt_X E cx Z (k + 1) (n + 6) 201 _ [.int (nI q)] S1
  refine xt_istore A.1 dL_law_201 (Nat.le_of_ble_eq_true rfl) rfl rfl ?_
  obtain ⟨v2, P2, hM1, hM2⟩ := hM S1 h1
  show xt_X E cx Z (k + 1) (n + 6) 203 (xt_lv9 E b i (some (.int (nI q))) none none) [] S1
  refine xt_aload_n A.1 dL_law_203 rfl ?_
  refine xt_arg A 1 (by omega) (by decide) dL_law_204 dL_law_205 dL_law_207 dL_law_208 dL_law_209 ?_
  refine xt_arg A 2 (by omega) (by decide) dL_law_210 dL_law_211 dL_law_213 dL_law_214 dL_law_215 ?_
  refine xt_cVq A.1 mv_X6_size lkL_129 hM1 rfl (by decide) (xt_cl49 _ _) rfl ⟨Nat.le_of_ble_eq_true rfl, Nat.le_of_ble_eq_true rfl, hk.1, hk.2⟩ rfl (Nat.le_of_ble_eq_true rfl) dL_law_216 (fun v S2 h2 => ?_)
  obtain ⟨rfl, h2⟩ := h2
  obtain ⟨e1, e2, e3⟩ := hM2 S2 h2
  exact xt_tail A hq e1 e2 dL_law_219 dL_law_221 dL_law_222 dL_law_225 dL_law_227 dL_law_232 dL_law_234 dL_law_237 dL_law_238 dL_law_239 dL_law_240 dL_law_242 dL_law_243 dL_law_244 dL_law_249 (by decide) hk (kk S2 e3)
set_option maxRecDepth 20000 in
set_option maxHeartbeats 2000000 in
theorem la_setting (A : xt_LA E cx b L xs) (hi : i + 6 ≤ L) (hk : k + 1 ≤ 601024 ∧ n + 6 ≤ 7293034) (hI : xt_Inv S) (kk : ∀ S9, xt_Inv S9 → xt_X E cx Z (k + 1) (n + 6) 2308 (xt_lv9 E b i none none none) [] S9) : xt_X E cx Z k n 252 (xt_lv9 E b i none none none) [] S := by
  obtain ⟨q, P1, hq, hW, hM⟩ := st_setting (E := E) (l := cx.2.1) A.2.2.2.2.2 hI (xs (i + 1)) (xs (i + 2))
  refine xt_aload_n A.1 dL_law_252 rfl ?_
  refine xt_arg A 1 (by omega) (by decide) dL_law_253 dL_law_254 dL_law_256 dL_law_257 dL_law_258 ?_
  refine xt_arg A 2 (by omega) (by decide) dL_law_259 dL_law_260 dL_law_262 dL_law_263 dL_law_264 ?_
  refine xt_aload_n A.1 dL_law_265 rfl ?_
  refine xt_callSH A.1 mh_L_setting lkL_133 hW rfl ⟨Nat.le_of_ble_eq_true rfl, Nat.le_of_ble_eq_true rfl, hk.1, hk.2⟩ rfl (Nat.le_of_ble_eq_true rfl) dL_law_266 (fun v S1 h1 => ?_)
  obtain ⟨rfl, h1⟩ := h1
  show xt_X E cx Z (k + 1) (n + 6) 269 _ [.int (nI q)] S1
  refine xt_istore A.1 dL_law_269 (Nat.le_of_ble_eq_true rfl) rfl rfl ?_
  obtain ⟨v2, P2, hM1, hM2⟩ := hM S1 h1
  show xt_X E cx Z (k + 1) (n + 6) 271 (xt_lv9 E b i (some (.int (nI q))) none none) [] S1
  refine xt_aload_n A.1 dL_law_271 rfl ?_
  refine xt_arg A 1 (by omega) (by decide) dL_law_272 dL_law_273 dL_law_275 dL_law_276 dL_law_277 ?_
  refine xt_arg A 2 (by omega) (by decide) dL_law_278 dL_law_279 dL_law_281 dL_law_282 dL_law_283 ?_
  refine xt_cVq A.1 mv_X6_setting lkL_135 hM1 rfl (by decide) (xt_cl49 _ _) rfl ⟨Nat.le_of_ble_eq_true rfl, Nat.le_of_ble_eq_true rfl, hk.1, hk.2⟩ rfl (Nat.le_of_ble_eq_true rfl) dL_law_284 (fun v S2 h2 => ?_)
  obtain ⟨rfl, h2⟩ := h2
  obtain ⟨e1, e2, e3⟩ := hM2 S2 h2
  exact xt_tail A hq e1 e2 dL_law_287 dL_law_289 dL_law_290 dL_law_293 dL_law_295 dL_law_300 dL_law_302 dL_law_305 dL_law_306 dL_law_307 dL_law_308 dL_law_310 dL_law_311 dL_law_312 dL_law_317 (by decide) hk (kk S2 e3)
set_option maxRecDepth 20000 in
set_option maxHeartbeats 2000000 in
theorem la_number (A : xt_LA E cx b L xs) (hi : i + 6 ≤ L) (hk : k + 1 ≤ 601024 ∧ n + 6 ≤ 7293034) (hI : xt_Inv S) (kk : ∀ S9, xt_Inv S9 → xt_X E cx Z (k + 1) (n + 6) 2308 (xt_lv9 E b i none none none) [] S9) : xt_X E cx Z k n 320 (xt_lv9 E b i none none none) [] S := by
  obtain ⟨q, P1, hq, hW, hM⟩ := st_number (E := E) (l := cx.2.1) A.2.2.2.2.2 hI (xs (i + 1))
  refine xt_aload_n A.1 dL_law_320 rfl ?_
  refine xt_arg A 1 (by omega) (by decide) dL_law_321 dL_law_322 dL_law_324 dL_law_325 dL_law_326 ?_
  refine xt_aload_n A.1 dL_law_327 rfl ?_
  refine xt_callSH A.1 mh_L_number lkL_136 hW rfl ⟨Nat.le_of_ble_eq_true rfl, Nat.le_of_ble_eq_true rfl, hk.1, hk.2⟩ rfl (Nat.le_of_ble_eq_true rfl) dL_law_328 (fun v S1 h1 => ?_)
  obtain ⟨rfl, h1⟩ := h1
  show xt_X E cx Z (k + 1) (n + 6) 331 _ [.int (nI q)] S1
  refine xt_istore A.1 dL_law_331 (Nat.le_of_ble_eq_true rfl) rfl rfl ?_
  obtain ⟨v2, P2, hM1, hM2⟩ := hM S1 h1
  show xt_X E cx Z (k + 1) (n + 6) 333 (xt_lv9 E b i (some (.int (nI q))) none none) [] S1
  refine xt_aload_n A.1 dL_law_333 rfl ?_
  refine xt_arg A 1 (by omega) (by decide) dL_law_334 dL_law_335 dL_law_337 dL_law_338 dL_law_339 ?_
  refine xt_cVq A.1 mv_X6_number lkL_139 hM1 rfl (by decide) (xt_cl49 _ _) rfl ⟨Nat.le_of_ble_eq_true rfl, Nat.le_of_ble_eq_true rfl, hk.1, hk.2⟩ rfl (Nat.le_of_ble_eq_true rfl) dL_law_340 (fun v S2 h2 => ?_)
  obtain ⟨rfl, h2⟩ := h2
  obtain ⟨e1, e2, e3⟩ := hM2 S2 h2
  exact xt_tail A hq e1 e2 dL_law_343 dL_law_345 dL_law_346 dL_law_349 dL_law_351 dL_law_356 dL_law_358 dL_law_361 dL_law_362 dL_law_363 dL_law_364 dL_law_366 dL_law_367 dL_law_368 dL_law_373 (by decide) hk (kk S2 e3)
set_option maxRecDepth 20000 in
set_option maxHeartbeats 2000000 in
theorem la_set (A : xt_LA E cx b L xs) (hi : i + 6 ≤ L) (hk : k + 1 ≤ 601024 ∧ n + 6 ≤ 7293034) (hI : xt_Inv S) (kk : ∀ S9, xt_Inv S9 → xt_X E cx Z (k + 1) (n + 6) 2308 (xt_lv9 E b i none none none) [] S9) : xt_X E cx Z k n 376 (xt_lv9 E b i none none none) [] S := by
  obtain ⟨q, P1, hq, hW, hM⟩ := st_set (E := E) (l := cx.2.1) A.2.2.2.2.2 hI (xs (i + 1)) (xs (i + 2)) (xs (i + 3))
  refine xt_aload_n A.1 dL_law_376 rfl ?_
  refine xt_arg A 1 (by omega) (by decide) dL_law_377 dL_law_378 dL_law_380 dL_law_381 dL_law_382 ?_
  refine xt_arg A 2 (by omega) (by decide) dL_law_383 dL_law_384 dL_law_386 dL_law_387 dL_law_388 ?_
  refine xt_arg A 3 (by omega) (by decide) dL_law_389 dL_law_390 dL_law_392 dL_law_393 dL_law_394 ?_
  refine xt_aload_n A.1 dL_law_395 rfl ?_
  refine xt_callSH A.1 mh_L_set lkL_140 hW rfl ⟨Nat.le_of_ble_eq_true rfl, Nat.le_of_ble_eq_true rfl, hk.1, hk.2⟩ rfl (Nat.le_of_ble_eq_true rfl) dL_law_396 (fun v S1 h1 => ?_)
  obtain ⟨rfl, h1⟩ := h1
  show xt_X E cx Z (k + 1) (n + 6) 399 _ [.int (nI q)] S1
  refine xt_istore A.1 dL_law_399 (Nat.le_of_ble_eq_true rfl) rfl rfl ?_
  obtain ⟨v2, P2, hM1, hM2⟩ := hM S1 h1
  show xt_X E cx Z (k + 1) (n + 6) 401 (xt_lv9 E b i (some (.int (nI q))) none none) [] S1
  refine xt_aload_n A.1 dL_law_401 rfl ?_
  refine xt_arg A 1 (by omega) (by decide) dL_law_402 dL_law_403 dL_law_405 dL_law_406 dL_law_407 ?_
  refine xt_arg A 2 (by omega) (by decide) dL_law_408 dL_law_409 dL_law_411 dL_law_412 dL_law_413 ?_
  refine xt_arg A 3 (by omega) (by decide) dL_law_414 dL_law_415 dL_law_417 dL_law_418 dL_law_419 ?_
  refine xt_cVq A.1 mv_X6_set lkL_143 hM1 rfl (by decide) (xt_cl49 _ _) rfl ⟨Nat.le_of_ble_eq_true rfl, Nat.le_of_ble_eq_true rfl, hk.1, hk.2⟩ rfl (Nat.le_of_ble_eq_true rfl) dL_law_420 (fun v S2 h2 => ?_)
  obtain ⟨rfl, h2⟩ := h2
  obtain ⟨e1, e2, e3⟩ := hM2 S2 h2
  exact xt_tail A hq e1 e2 dL_law_423 dL_law_425 dL_law_426 dL_law_429 dL_law_431 dL_law_436 dL_law_438 dL_law_441 dL_law_442 dL_law_443 dL_law_444 dL_law_446 dL_law_447 dL_law_448 dL_law_453 (by decide) hk (kk S2 e3)
set_option maxRecDepth 20000 in
set_option maxHeartbeats 2000000 in
theorem la_pixel (A : xt_LA E cx b L xs) (hi : i + 6 ≤ L) (hk : k + 1 ≤ 601024 ∧ n + 6 ≤ 7293034) (hI : xt_Inv S) (kk : ∀ S9, xt_Inv S9 → xt_X E cx Z (k + 1) (n + 6) 2308 (xt_lv9 E b i none none none) [] S9) : xt_X E cx Z k n 456 (xt_lv9 E b i none none none) [] S := by
  obtain ⟨q, P1, hq, hW, hM⟩ := st_pixel (E := E) (l := cx.2.1) A.2.2.2.2.2 hI (xs (i + 1)) (xs (i + 2))
  refine xt_aload_n A.1 dL_law_456 rfl ?_
  refine xt_arg A 1 (by omega) (by decide) dL_law_457 dL_law_458 dL_law_460 dL_law_461 dL_law_462 ?_
  refine xt_arg A 2 (by omega) (by decide) dL_law_463 dL_law_464 dL_law_466 dL_law_467 dL_law_468 ?_
  refine xt_aload_n A.1 dL_law_469 rfl ?_
  refine xt_callSH A.1 mh_L_pixel lkL_144 hW rfl ⟨Nat.le_of_ble_eq_true rfl, Nat.le_of_ble_eq_true rfl, hk.1, hk.2⟩ rfl (Nat.le_of_ble_eq_true rfl) dL_law_470 (fun v S1 h1 => ?_)
  obtain ⟨rfl, h1⟩ := h1
  show xt_X E cx Z (k + 1) (n + 6) 473 _ [.int (nI q)] S1
  refine xt_istore A.1 dL_law_473 (Nat.le_of_ble_eq_true rfl) rfl rfl ?_
  obtain ⟨v2, P2, hM1, hM2⟩ := hM S1 h1
  show xt_X E cx Z (k + 1) (n + 6) 475 (xt_lv9 E b i (some (.int (nI q))) none none) [] S1
  refine xt_aload_n A.1 dL_law_475 rfl ?_
  refine xt_arg A 1 (by omega) (by decide) dL_law_476 dL_law_477 dL_law_479 dL_law_480 dL_law_481 ?_
  refine xt_arg A 2 (by omega) (by decide) dL_law_482 dL_law_483 dL_law_485 dL_law_486 dL_law_487 ?_
  refine xt_cVq A.1 mv_X6_pixel lkL_146 hM1 rfl (by decide) (xt_cl49 _ _) rfl ⟨Nat.le_of_ble_eq_true rfl, Nat.le_of_ble_eq_true rfl, hk.1, hk.2⟩ rfl (Nat.le_of_ble_eq_true rfl) dL_law_488 (fun v S2 h2 => ?_)
  obtain ⟨rfl, h2⟩ := h2
  obtain ⟨e1, e2, e3⟩ := hM2 S2 h2
  exact xt_tail A hq e1 e2 dL_law_491 dL_law_493 dL_law_494 dL_law_497 dL_law_499 dL_law_504 dL_law_506 dL_law_509 dL_law_510 dL_law_511 dL_law_512 dL_law_514 dL_law_515 dL_law_516 dL_law_521 (by decide) hk (kk S2 e3)
set_option maxRecDepth 20000 in
set_option maxHeartbeats 2000000 in
theorem la_fill (A : xt_LA E cx b L xs) (hi : i + 6 ≤ L) (hk : k + 1 ≤ 601024 ∧ n + 6 ≤ 7293034) (hI : xt_Inv S) (kk : ∀ S9, xt_Inv S9 → xt_X E cx Z (k + 1) (n + 6) 2308 (xt_lv9 E b i none none none) [] S9) : xt_X E cx Z k n 524 (xt_lv9 E b i none none none) [] S := by
  obtain ⟨q, P1, hq, hW, hM⟩ := st_fill (E := E) (l := cx.2.1) A.2.2.2.2.2 hI (xs (i + 1)) (xs (i + 2)) (xs (i + 3)) (xs (i + 4)) (xs (i + 5))
  refine xt_aload_n A.1 dL_law_524 rfl ?_
  refine xt_arg A 1 (by omega) (by decide) dL_law_525 dL_law_526 dL_law_528 dL_law_529 dL_law_530 ?_
  refine xt_arg A 2 (by omega) (by decide) dL_law_531 dL_law_532 dL_law_534 dL_law_535 dL_law_536 ?_
  refine xt_arg A 3 (by omega) (by decide) dL_law_537 dL_law_538 dL_law_540 dL_law_541 dL_law_542 ?_
  refine xt_arg A 4 (by omega) (by decide) dL_law_543 dL_law_544 dL_law_546 dL_law_547 dL_law_548 ?_
  refine xt_arg A 5 (by omega) (by decide) dL_law_549 dL_law_550 dL_law_552 dL_law_553 dL_law_554 ?_
  refine xt_aload_n A.1 dL_law_555 rfl ?_
  refine xt_callSH A.1 mh_L_fill lkL_147 hW rfl ⟨Nat.le_of_ble_eq_true rfl, Nat.le_of_ble_eq_true rfl, hk.1, hk.2⟩ rfl (Nat.le_of_ble_eq_true rfl) dL_law_556 (fun v S1 h1 => ?_)
  obtain ⟨rfl, h1⟩ := h1
  show xt_X E cx Z (k + 1) (n + 6) 559 _ [.int (nI q)] S1
  refine xt_istore A.1 dL_law_559 (Nat.le_of_ble_eq_true rfl) rfl rfl ?_
  obtain ⟨v2, P2, hM1, hM2⟩ := hM S1 h1
  show xt_X E cx Z (k + 1) (n + 6) 561 (xt_lv9 E b i (some (.int (nI q))) none none) [] S1
  refine xt_aload_n A.1 dL_law_561 rfl ?_
  refine xt_arg A 1 (by omega) (by decide) dL_law_562 dL_law_563 dL_law_565 dL_law_566 dL_law_567 ?_
  refine xt_arg A 2 (by omega) (by decide) dL_law_568 dL_law_569 dL_law_571 dL_law_572 dL_law_573 ?_
  refine xt_arg A 3 (by omega) (by decide) dL_law_574 dL_law_575 dL_law_577 dL_law_578 dL_law_579 ?_
  refine xt_arg A 4 (by omega) (by decide) dL_law_580 dL_law_581 dL_law_583 dL_law_584 dL_law_585 ?_
  refine xt_arg A 5 (by omega) (by decide) dL_law_586 dL_law_587 dL_law_589 dL_law_590 dL_law_591 ?_
  refine xt_cVq A.1 mv_X6_fill lkL_150 hM1 rfl (by decide) (xt_cl49 _ _) rfl ⟨Nat.le_of_ble_eq_true rfl, Nat.le_of_ble_eq_true rfl, hk.1, hk.2⟩ rfl (Nat.le_of_ble_eq_true rfl) dL_law_592 (fun v S2 h2 => ?_)
  obtain ⟨rfl, h2⟩ := h2
  obtain ⟨e1, e2, e3⟩ := hM2 S2 h2
  exact xt_tail A hq e1 e2 dL_law_595 dL_law_597 dL_law_598 dL_law_601 dL_law_603 dL_law_608 dL_law_610 dL_law_613 dL_law_614 dL_law_615 dL_law_616 dL_law_618 dL_law_619 dL_law_620 dL_law_625 (by decide) hk (kk S2 e3)
set_option maxRecDepth 20000 in
set_option maxHeartbeats 2000000 in
theorem la_mask (A : xt_LA E cx b L xs) (hi : i + 6 ≤ L) (hk : k + 1 ≤ 601024 ∧ n + 6 ≤ 7293034) (hI : xt_Inv S) (kk : ∀ S9, xt_Inv S9 → xt_X E cx Z (k + 1) (n + 6) 2308 (xt_lv9 E b i none none none) [] S9) : xt_X E cx Z k n 628 (xt_lv9 E b i none none none) [] S := by
  by_cases c0 : xs (i + 5) = 0
  · skip
    obtain ⟨q, P1, hq, hW, hM⟩ := st_mask (E := E) (l := cx.2.1) A.2.2.2.2.2 hI (xs (i + 1)) (xs (i + 2)) (xs (i + 3)) (xs (i + 4)) (nI 0) (Or.inl rfl)
    refine xt_aload_n A.1 dL_law_628 rfl ?_
    refine xt_arg A 1 (by omega) (by decide) dL_law_629 dL_law_630 dL_law_632 dL_law_633 dL_law_634 ?_
    refine xt_arg A 2 (by omega) (by decide) dL_law_635 dL_law_636 dL_law_638 dL_law_639 dL_law_640 ?_
    refine xt_arg A 3 (by omega) (by decide) dL_law_641 dL_law_642 dL_law_644 dL_law_645 dL_law_646 ?_
    refine xt_arg A 4 (by omega) (by decide) dL_law_647 dL_law_648 dL_law_650 dL_law_651 dL_law_652 ?_
    refine xt_arg A 5 (by omega) (by decide) dL_law_653 dL_law_654 dL_law_656 dL_law_657 dL_law_658 ?_
    refine xt_if_eq (tgt := 666) A.1 dL_law_659 (by decide) (fun _ => ?_) (fun c9 => absurd c0 c9)
    refine xt_iconst (v := nI 0) A.1 dL_law_666 rfl ?_
    refine xt_aload_n A.1 dL_law_667 rfl ?_
    refine xt_callSH A.1 mh_L_mask lkL_151 hW rfl ⟨Nat.le_of_ble_eq_true rfl, Nat.le_of_ble_eq_true rfl, hk.1, hk.2⟩ rfl (Nat.le_of_ble_eq_true rfl) dL_law_668 (fun v S1 h1 => ?_)
    obtain ⟨rfl, h1⟩ := h1
    show xt_X E cx Z (k + 1) (n + 6) 671 _ [.int (nI q)] S1
    refine xt_istore A.1 dL_law_671 (Nat.le_of_ble_eq_true rfl) rfl rfl ?_
    obtain ⟨v2, P2, hM1, hM2⟩ := hM S1 h1
    show xt_X E cx Z (k + 1) (n + 6) 673 (xt_lv9 E b i (some (.int (nI q))) none none) [] S1
    refine xt_aload_n A.1 dL_law_673 rfl ?_
    refine xt_arg A 1 (by omega) (by decide) dL_law_674 dL_law_675 dL_law_677 dL_law_678 dL_law_679 ?_
    refine xt_arg A 2 (by omega) (by decide) dL_law_680 dL_law_681 dL_law_683 dL_law_684 dL_law_685 ?_
    refine xt_arg A 3 (by omega) (by decide) dL_law_686 dL_law_687 dL_law_689 dL_law_690 dL_law_691 ?_
    refine xt_arg A 4 (by omega) (by decide) dL_law_692 dL_law_693 dL_law_695 dL_law_696 dL_law_697 ?_
    refine xt_arg A 5 (by omega) (by decide) dL_law_698 dL_law_699 dL_law_701 dL_law_702 dL_law_703 ?_
    refine xt_if_eq (tgt := 711) A.1 dL_law_704 (by decide) (fun _ => ?_) (fun c9 => absurd c0 c9)
    refine xt_iconst (v := nI 0) A.1 dL_law_711 rfl ?_
    refine xt_cVq A.1 mv_X6_mask lkL_154 hM1 rfl (by decide) (xt_cl49 _ _) rfl ⟨Nat.le_of_ble_eq_true rfl, Nat.le_of_ble_eq_true rfl, hk.1, hk.2⟩ rfl (Nat.le_of_ble_eq_true rfl) dL_law_712 (fun v S2 h2 => ?_)
    obtain ⟨rfl, h2⟩ := h2
    obtain ⟨e1, e2, e3⟩ := hM2 S2 h2
    exact xt_tail A hq e1 e2 dL_law_715 dL_law_717 dL_law_718 dL_law_721 dL_law_723 dL_law_728 dL_law_730 dL_law_733 dL_law_734 dL_law_735 dL_law_736 dL_law_738 dL_law_739 dL_law_740 dL_law_745 (by decide) hk (kk S2 e3)
  · skip
    obtain ⟨q, P1, hq, hW, hM⟩ := st_mask (E := E) (l := cx.2.1) A.2.2.2.2.2 hI (xs (i + 1)) (xs (i + 2)) (xs (i + 3)) (xs (i + 4)) (nI 1) (Or.inr rfl)
    refine xt_aload_n A.1 dL_law_628 rfl ?_
    refine xt_arg A 1 (by omega) (by decide) dL_law_629 dL_law_630 dL_law_632 dL_law_633 dL_law_634 ?_
    refine xt_arg A 2 (by omega) (by decide) dL_law_635 dL_law_636 dL_law_638 dL_law_639 dL_law_640 ?_
    refine xt_arg A 3 (by omega) (by decide) dL_law_641 dL_law_642 dL_law_644 dL_law_645 dL_law_646 ?_
    refine xt_arg A 4 (by omega) (by decide) dL_law_647 dL_law_648 dL_law_650 dL_law_651 dL_law_652 ?_
    refine xt_arg A 5 (by omega) (by decide) dL_law_653 dL_law_654 dL_law_656 dL_law_657 dL_law_658 ?_
    refine xt_if_eq (tgt := 666) A.1 dL_law_659 (by decide) (fun c9 => absurd c9 c0) (fun _ => ?_)
    refine xt_iconst (v := nI 1) A.1 dL_law_662 rfl ?_
    refine xt_goto (tgt := 667) A.1 dL_law_663 (by decide) ?_
    refine xt_aload_n A.1 dL_law_667 rfl ?_
    refine xt_callSH A.1 mh_L_mask lkL_151 hW rfl ⟨Nat.le_of_ble_eq_true rfl, Nat.le_of_ble_eq_true rfl, hk.1, hk.2⟩ rfl (Nat.le_of_ble_eq_true rfl) dL_law_668 (fun v S1 h1 => ?_)
    obtain ⟨rfl, h1⟩ := h1
    show xt_X E cx Z (k + 1) (n + 6) 671 _ [.int (nI q)] S1
    refine xt_istore A.1 dL_law_671 (Nat.le_of_ble_eq_true rfl) rfl rfl ?_
    obtain ⟨v2, P2, hM1, hM2⟩ := hM S1 h1
    show xt_X E cx Z (k + 1) (n + 6) 673 (xt_lv9 E b i (some (.int (nI q))) none none) [] S1
    refine xt_aload_n A.1 dL_law_673 rfl ?_
    refine xt_arg A 1 (by omega) (by decide) dL_law_674 dL_law_675 dL_law_677 dL_law_678 dL_law_679 ?_
    refine xt_arg A 2 (by omega) (by decide) dL_law_680 dL_law_681 dL_law_683 dL_law_684 dL_law_685 ?_
    refine xt_arg A 3 (by omega) (by decide) dL_law_686 dL_law_687 dL_law_689 dL_law_690 dL_law_691 ?_
    refine xt_arg A 4 (by omega) (by decide) dL_law_692 dL_law_693 dL_law_695 dL_law_696 dL_law_697 ?_
    refine xt_arg A 5 (by omega) (by decide) dL_law_698 dL_law_699 dL_law_701 dL_law_702 dL_law_703 ?_
    refine xt_if_eq (tgt := 711) A.1 dL_law_704 (by decide) (fun c9 => absurd c9 c0) (fun _ => ?_)
    refine xt_iconst (v := nI 1) A.1 dL_law_707 rfl ?_
    refine xt_goto (tgt := 712) A.1 dL_law_708 (by decide) ?_
    refine xt_cVq A.1 mv_X6_mask lkL_154 hM1 rfl (by decide) (xt_cl49 _ _) rfl ⟨Nat.le_of_ble_eq_true rfl, Nat.le_of_ble_eq_true rfl, hk.1, hk.2⟩ rfl (Nat.le_of_ble_eq_true rfl) dL_law_712 (fun v S2 h2 => ?_)
    obtain ⟨rfl, h2⟩ := h2
    obtain ⟨e1, e2, e3⟩ := hM2 S2 h2
    exact xt_tail A hq e1 e2 dL_law_715 dL_law_717 dL_law_718 dL_law_721 dL_law_723 dL_law_728 dL_law_730 dL_law_733 dL_law_734 dL_law_735 dL_law_736 dL_law_738 dL_law_739 dL_law_740 dL_law_745 (by decide) hk (kk S2 e3)
set_option maxRecDepth 20000 in
set_option maxHeartbeats 2000000 in
theorem la_tileOf (A : xt_LA E cx b L xs) (hi : i + 6 ≤ L) (hk : k + 1 ≤ 601024 ∧ n + 6 ≤ 7293034) (hI : xt_Inv S) (kk : ∀ S9, xt_Inv S9 → xt_X E cx Z (k + 1) (n + 6) 2308 (xt_lv9 E b i none none none) [] S9) : xt_X E cx Z k n 748 (xt_lv9 E b i none none none) [] S := by
  obtain ⟨q, P1, hq, hW, hM⟩ := st_tileOf (E := E) (l := cx.2.1) A.2.2.2.2.2 hI (xs (i + 1)) (xs (i + 2))
  refine xt_aload_n A.1 dL_law_748 rfl ?_
  refine xt_arg A 1 (by omega) (by decide) dL_law_749 dL_law_750 dL_law_752 dL_law_753 dL_law_754 ?_
  refine xt_arg A 2 (by omega) (by decide) dL_law_755 dL_law_756 dL_law_758 dL_law_759 dL_law_760 ?_
  refine xt_aload_n A.1 dL_law_761 rfl ?_
  refine xt_callSH A.1 mh_L_tileOf lkL_155 hW rfl ⟨Nat.le_of_ble_eq_true rfl, Nat.le_of_ble_eq_true rfl, hk.1, hk.2⟩ rfl (Nat.le_of_ble_eq_true rfl) dL_law_762 (fun v S1 h1 => ?_)
  obtain ⟨rfl, h1⟩ := h1
  show xt_X E cx Z (k + 1) (n + 6) 765 _ [.int (nI q)] S1
  refine xt_istore A.1 dL_law_765 (Nat.le_of_ble_eq_true rfl) rfl rfl ?_
  obtain ⟨v2, P2, hM1, hM2⟩ := hM S1 h1
  show xt_X E cx Z (k + 1) (n + 6) 767 (xt_lv9 E b i (some (.int (nI q))) none none) [] S1
  refine xt_aload_n A.1 dL_law_767 rfl ?_
  refine xt_arg A 1 (by omega) (by decide) dL_law_768 dL_law_769 dL_law_771 dL_law_772 dL_law_773 ?_
  refine xt_arg A 2 (by omega) (by decide) dL_law_774 dL_law_775 dL_law_777 dL_law_778 dL_law_779 ?_
  refine xt_cVq A.1 mv_X6_tileOf lkL_157 hM1 rfl (by decide) (xt_cl49 _ _) rfl ⟨Nat.le_of_ble_eq_true rfl, Nat.le_of_ble_eq_true rfl, hk.1, hk.2⟩ rfl (Nat.le_of_ble_eq_true rfl) dL_law_780 (fun v S2 h2 => ?_)
  obtain ⟨rfl, h2⟩ := h2
  obtain ⟨e1, e2, e3⟩ := hM2 S2 h2
  exact xt_tail A hq e1 e2 dL_law_783 dL_law_785 dL_law_786 dL_law_789 dL_law_791 dL_law_796 dL_law_798 dL_law_801 dL_law_802 dL_law_803 dL_law_804 dL_law_806 dL_law_807 dL_law_808 dL_law_813 (by decide) hk (kk S2 e3)
set_option maxRecDepth 20000 in
set_option maxHeartbeats 2000000 in
theorem la_tile (A : xt_LA E cx b L xs) (hi : i + 6 ≤ L) (hk : k + 1 ≤ 601024 ∧ n + 6 ≤ 7293034) (hI : xt_Inv S) (kk : ∀ S9, xt_Inv S9 → xt_X E cx Z (k + 1) (n + 6) 2308 (xt_lv9 E b i none none none) [] S9) : xt_X E cx Z k n 816 (xt_lv9 E b i none none none) [] S := by
  obtain ⟨q, P1, hq, hW, hM⟩ := st_tile (E := E) (l := cx.2.1) A.2.2.2.2.2 hI (xs (i + 1)) (xs (i + 2))
  refine xt_aload_n A.1 dL_law_816 rfl ?_
  refine xt_arg A 1 (by omega) (by decide) dL_law_817 dL_law_818 dL_law_820 dL_law_821 dL_law_822 ?_
  refine xt_arg A 2 (by omega) (by decide) dL_law_823 dL_law_824 dL_law_826 dL_law_827 dL_law_828 ?_
  refine xt_aload_n A.1 dL_law_829 rfl ?_
  refine xt_callSH A.1 mh_L_tile lkL_158 hW rfl ⟨Nat.le_of_ble_eq_true rfl, Nat.le_of_ble_eq_true rfl, hk.1, hk.2⟩ rfl (Nat.le_of_ble_eq_true rfl) dL_law_830 (fun v S1 h1 => ?_)
  obtain ⟨rfl, h1⟩ := h1
  show xt_X E cx Z (k + 1) (n + 6) 833 _ [.int (nI q)] S1
  refine xt_istore A.1 dL_law_833 (Nat.le_of_ble_eq_true rfl) rfl rfl ?_
  obtain ⟨v2, P2, hM1, hM2⟩ := hM S1 h1
  show xt_X E cx Z (k + 1) (n + 6) 835 (xt_lv9 E b i (some (.int (nI q))) none none) [] S1
  refine xt_aload_n A.1 dL_law_835 rfl ?_
  refine xt_arg A 1 (by omega) (by decide) dL_law_836 dL_law_837 dL_law_839 dL_law_840 dL_law_841 ?_
  refine xt_arg A 2 (by omega) (by decide) dL_law_842 dL_law_843 dL_law_845 dL_law_846 dL_law_847 ?_
  refine xt_cVq A.1 mv_X6_tile lkL_160 hM1 rfl (by decide) (xt_cl49 _ _) rfl ⟨Nat.le_of_ble_eq_true rfl, Nat.le_of_ble_eq_true rfl, hk.1, hk.2⟩ rfl (Nat.le_of_ble_eq_true rfl) dL_law_848 (fun v S2 h2 => ?_)
  obtain ⟨rfl, h2⟩ := h2
  obtain ⟨e1, e2, e3⟩ := hM2 S2 h2
  exact xt_tail A hq e1 e2 dL_law_851 dL_law_853 dL_law_854 dL_law_857 dL_law_859 dL_law_864 dL_law_866 dL_law_869 dL_law_870 dL_law_871 dL_law_872 dL_law_874 dL_law_875 dL_law_876 dL_law_881 (by decide) hk (kk S2 e3)
set_option maxRecDepth 20000 in
set_option maxHeartbeats 2000000 in
theorem la_raise (A : xt_LA E cx b L xs) (hi : i + 6 ≤ L) (hk : k + 1 ≤ 601024 ∧ n + 6 ≤ 7293034) (hI : xt_Inv S) (kk : ∀ S9, xt_Inv S9 → xt_X E cx Z (k + 1) (n + 6) 2308 (xt_lv9 E b i none none none) [] S9) : xt_X E cx Z k n 884 (xt_lv9 E b i none none none) [] S := by
  obtain ⟨q, P1, hq, hW, hM⟩ := st_raise (E := E) (l := cx.2.1) A.2.2.2.2.2 hI (xs (i + 1)) (xs (i + 2))
  refine xt_aload_n A.1 dL_law_884 rfl ?_
  refine xt_arg A 1 (by omega) (by decide) dL_law_885 dL_law_886 dL_law_888 dL_law_889 dL_law_890 ?_
  refine xt_arg A 2 (by omega) (by decide) dL_law_891 dL_law_892 dL_law_894 dL_law_895 dL_law_896 ?_
  refine xt_aload_n A.1 dL_law_897 rfl ?_
  refine xt_callSH A.1 mh_L_raise lkL_161 hW rfl ⟨Nat.le_of_ble_eq_true rfl, Nat.le_of_ble_eq_true rfl, hk.1, hk.2⟩ rfl (Nat.le_of_ble_eq_true rfl) dL_law_898 (fun v S1 h1 => ?_)
  obtain ⟨rfl, h1⟩ := h1
  show xt_X E cx Z (k + 1) (n + 6) 901 _ [.int (nI q)] S1
  refine xt_istore A.1 dL_law_901 (Nat.le_of_ble_eq_true rfl) rfl rfl ?_
  obtain ⟨v2, P2, hM1, hM2⟩ := hM S1 h1
  show xt_X E cx Z (k + 1) (n + 6) 903 (xt_lv9 E b i (some (.int (nI q))) none none) [] S1
  refine xt_aload_n A.1 dL_law_903 rfl ?_
  refine xt_arg A 1 (by omega) (by decide) dL_law_904 dL_law_905 dL_law_907 dL_law_908 dL_law_909 ?_
  refine xt_arg A 2 (by omega) (by decide) dL_law_910 dL_law_911 dL_law_913 dL_law_914 dL_law_915 ?_
  refine xt_cVq A.1 mv_X6_raise lkL_163 hM1 rfl (by decide) (xt_cl49 _ _) rfl ⟨Nat.le_of_ble_eq_true rfl, Nat.le_of_ble_eq_true rfl, hk.1, hk.2⟩ rfl (Nat.le_of_ble_eq_true rfl) dL_law_916 (fun v S2 h2 => ?_)
  obtain ⟨rfl, h2⟩ := h2
  obtain ⟨e1, e2, e3⟩ := hM2 S2 h2
  exact xt_tail A hq e1 e2 dL_law_919 dL_law_921 dL_law_922 dL_law_925 dL_law_927 dL_law_932 dL_law_934 dL_law_937 dL_law_938 dL_law_939 dL_law_940 dL_law_942 dL_law_943 dL_law_944 dL_law_949 (by decide) hk (kk S2 e3)
set_option maxRecDepth 20000 in
set_option maxHeartbeats 2000000 in
theorem la_swap (A : xt_LA E cx b L xs) (hi : i + 6 ≤ L) (hk : k + 1 ≤ 601024 ∧ n + 6 ≤ 7293034) (hI : xt_Inv S) (kk : ∀ S9, xt_Inv S9 → xt_X E cx Z (k + 1) (n + 6) 2308 (xt_lv9 E b i none none none) [] S9) : xt_X E cx Z k n 952 (xt_lv9 E b i none none none) [] S := by
  obtain ⟨q, P1, hq, hW, hM⟩ := st_swap (E := E) (l := cx.2.1) A.2.2.2.2.2 hI (xs (i + 1)) (xs (i + 2))
  refine xt_aload_n A.1 dL_law_952 rfl ?_
  refine xt_arg A 1 (by omega) (by decide) dL_law_953 dL_law_954 dL_law_956 dL_law_957 dL_law_958 ?_
  refine xt_arg A 2 (by omega) (by decide) dL_law_959 dL_law_960 dL_law_962 dL_law_963 dL_law_964 ?_
  refine xt_aload_n A.1 dL_law_965 rfl ?_
  refine xt_callSH A.1 mh_L_swap lkL_164 hW rfl ⟨Nat.le_of_ble_eq_true rfl, Nat.le_of_ble_eq_true rfl, hk.1, hk.2⟩ rfl (Nat.le_of_ble_eq_true rfl) dL_law_966 (fun v S1 h1 => ?_)
  obtain ⟨rfl, h1⟩ := h1
  show xt_X E cx Z (k + 1) (n + 6) 969 _ [.int (nI q)] S1
  refine xt_istore A.1 dL_law_969 (Nat.le_of_ble_eq_true rfl) rfl rfl ?_
  obtain ⟨v2, P2, hM1, hM2⟩ := hM S1 h1
  show xt_X E cx Z (k + 1) (n + 6) 971 (xt_lv9 E b i (some (.int (nI q))) none none) [] S1
  refine xt_aload_n A.1 dL_law_971 rfl ?_
  refine xt_arg A 1 (by omega) (by decide) dL_law_972 dL_law_973 dL_law_975 dL_law_976 dL_law_977 ?_
  refine xt_arg A 2 (by omega) (by decide) dL_law_978 dL_law_979 dL_law_981 dL_law_982 dL_law_983 ?_
  refine xt_cVq A.1 mv_X6_swap lkL_166 hM1 rfl (by decide) (xt_cl49 _ _) rfl ⟨Nat.le_of_ble_eq_true rfl, Nat.le_of_ble_eq_true rfl, hk.1, hk.2⟩ rfl (Nat.le_of_ble_eq_true rfl) dL_law_984 (fun v S2 h2 => ?_)
  obtain ⟨rfl, h2⟩ := h2
  obtain ⟨e1, e2, e3⟩ := hM2 S2 h2
  exact xt_tail A hq e1 e2 dL_law_987 dL_law_989 dL_law_990 dL_law_993 dL_law_995 dL_law_1000 dL_law_1002 dL_law_1005 dL_law_1006 dL_law_1007 dL_law_1008 dL_law_1010 dL_law_1011 dL_law_1012 dL_law_1017 (by decide) hk (kk S2 e3)
end XR2
