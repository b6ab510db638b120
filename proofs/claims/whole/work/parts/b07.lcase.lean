/-! the law's cases -/
theorem law_c0 {E : EV} {G : AH} {cs : Nat × Nat} {v5 v6 : Value} {j : Nat} (hL : (eX E).2.1 ≤ 3072) (hj : j + 6 ≤ (eX E).2.1) (hJ : JJ E G) (h1 : cs.1 + 3 ≤ 601024) (h2 : cs.2 + 18 ≤ 7293034) (kN : ∀ (G9 : AH) (cs9 : Nat × Nat) (u5 u6 : Value), JJ E G9 → cs9.1 ≤ cs.1 + 3 → cs9.2 ≤ cs.2 + 18 → WL E G9 cs9 2655 (LL E j u5 u6) []) : WL E G cs 272 (LL E j v5 v6) [] := by
  obtain ⟨vs7, hx7⟩ := hJ.x7
  refine w_aload_n dLM_272 rfl ?_
  refine w_arg (q := 1) hL hj dLM_273 dLM_274 dLM_276 dLM_277 dLM_278 (by decide) (by decide) (by decide) ?_
  refine w_arg (q := 2) hL hj dLM_279 dLM_280 dLM_282 dLM_283 dLM_284 (by decide) (by decide) (by decide) ?_
  refine w_arg (q := 3) hL hj dLM_285 dLM_286 dLM_288 dLM_289 dLM_290 (by decide) (by decide) (by decide) ?_
  refine w_arg (q := 4) hL hj dLM_291 dLM_292 dLM_294 dLM_295 dLM_296 (by decide) (by decide) (by decide) ?_
  refine w_arg (q := 5) hL hj dLM_297 dLM_298 dLM_300 dLM_301 dLM_302 (by decide) (by decide) (by decide) ?_
  refine wc_V (rest := []) (As := [.int (sc E (j + 1)), .int (sc E (j + 2)), .int (sc E (j + 3)), .int (sc E (j + 4)), .int (sc E (j + 5))]) dLM_303 lk_L_114 rfl (by rfl) hx7 rfl rfl (Nat.le_of_ble_eq_true rfl) (pd_feed (a := sc E (j + 1)) (b := sc E (j + 2)) (c := sc E (j + 3)) (d := sc E (j + 4)) (e := sc E (j + 5)) hJ) rfl (by simp) (by first | omega | (dsimp only; omega)) (by first | omega | (dsimp only; omega)) ?_ (fun X G9 h => by obtain ⟨r9, h, -⟩ := h; cases h)
  rintro o G1 ⟨r, ho, ⟨vs8, hx8⟩, dd, hdd, hC⟩
  cases ho
  refine w_aload_n dLM_306 rfl ?_
  refine w_arg (q := 1) hL hj dLM_307 dLM_308 dLM_310 dLM_311 dLM_312 (by decide) (by decide) (by decide) ?_
  refine w_arg (q := 2) hL hj dLM_313 dLM_314 dLM_316 dLM_317 dLM_318 (by decide) (by decide) (by decide) ?_
  refine w_arg (q := 3) hL hj dLM_319 dLM_320 dLM_322 dLM_323 dLM_324 (by decide) (by decide) (by decide) ?_
  refine w_arg (q := 4) hL hj dLM_325 dLM_326 dLM_328 dLM_329 dLM_330 (by decide) (by decide) (by decide) ?_
  refine w_arg (q := 5) hL hj dLM_331 dLM_332 dLM_334 dLM_335 dLM_336 (by decide) (by decide) (by decide) ?_
  refine wc_V (rest := [.int r]) (As := [.int (sc E (j + 1)), .int (sc E (j + 2)), .int (sc E (j + 3)), .int (sc E (j + 4)), .int (sc E (j + 5))]) dLM_337 lk_L_118 rfl (by rfl) hx8 rfl rfl (by omega) hC rfl (by simp [Value.category]) (by first | omega | (dsimp only; omega)) (by first | omega | (dsimp only; omega)) ?_ (fun X G9 h => by obtain ⟨r9, h, -⟩ := h; cases h)
  rintro o G2 ⟨r2, ho, rfl, hJ2⟩
  cases ho
  exact w_icmp_eq (tgt := 2655) dLM_340 (by decide) (fun _ => kN _ _ _ _ hJ2 (by first | omega | (dsimp only; omega)) (by first | omega | (dsimp only; omega))) (fun c => absurd rfl c)
theorem law_c1 {E : EV} {G : AH} {cs : Nat × Nat} {v5 v6 : Value} {j : Nat} (hL : (eX E).2.1 ≤ 3072) (hj : j + 6 ≤ (eX E).2.1) (hJ : JJ E G) (h1 : cs.1 + 3 ≤ 601024) (h2 : cs.2 + 18 ≤ 7293034) (kN : ∀ (G9 : AH) (cs9 : Nat × Nat) (u5 u6 : Value), JJ E G9 → cs9.1 ≤ cs.1 + 3 → cs9.2 ≤ cs.2 + 18 → WL E G9 cs9 2655 (LL E j u5 u6) []) : WL E G cs 345 (LL E j v5 v6) [] := by
  obtain ⟨vs7, hx7⟩ := hJ.x7
  refine w_aload_n dLM_345 rfl ?_
  refine w_arg (q := 1) hL hj dLM_346 dLM_347 dLM_349 dLM_350 dLM_351 (by decide) (by decide) (by decide) ?_
  refine wc_V (rest := []) (As := [.int (sc E (j + 1))]) dLM_352 lk_L_119 rfl (by rfl) hx7 rfl rfl (Nat.le_of_ble_eq_true rfl) (pd_end (x := sc E (j + 1)) hJ) rfl (by simp) (by first | omega | (dsimp only; omega)) (by first | omega | (dsimp only; omega)) ?_ (fun X G9 h => by obtain ⟨r9, h, -⟩ := h; cases h)
  rintro o G1 ⟨r, ho, ⟨vs8, hx8⟩, dd, hdd, hC⟩
  cases ho
  refine w_aload_n dLM_355 rfl ?_
  refine w_arg (q := 1) hL hj dLM_356 dLM_357 dLM_359 dLM_360 dLM_361 (by decide) (by decide) (by decide) ?_
  refine wc_V (rest := [.int r]) (As := [.int (sc E (j + 1))]) dLM_362 lk_L_123 rfl (by rfl) hx8 rfl rfl (by omega) hC rfl (by simp [Value.category]) (by first | omega | (dsimp only; omega)) (by first | omega | (dsimp only; omega)) ?_ (fun X G9 h => by obtain ⟨r9, h, -⟩ := h; cases h)
  rintro o G2 ⟨r2, ho, rfl, hJ2⟩
  cases ho
  exact w_icmp_eq (tgt := 2655) dLM_365 (by decide) (fun _ => kN _ _ _ _ hJ2 (by first | omega | (dsimp only; omega)) (by first | omega | (dsimp only; omega))) (fun c => absurd rfl c)
theorem law_c2 {E : EV} {G : AH} {cs : Nat × Nat} {v5 v6 : Value} {j : Nat} (hL : (eX E).2.1 ≤ 3072) (hj : j + 6 ≤ (eX E).2.1) (hJ : JJ E G) (h1 : cs.1 + 3 ≤ 601024) (h2 : cs.2 + 18 ≤ 7293034) (kN : ∀ (G9 : AH) (cs9 : Nat × Nat) (u5 u6 : Value), JJ E G9 → cs9.1 ≤ cs.1 + 3 → cs9.2 ≤ cs.2 + 18 → WL E G9 cs9 2655 (LL E j u5 u6) []) : WL E G cs 370 (LL E j v5 v6) [] := by
  obtain ⟨vs7, hx7⟩ := hJ.x7
  refine w_aload_n dLM_370 rfl ?_
  refine w_aload_n dLM_371 rfl ?_
  refine wc_X (rest := []) (As := [.ref (eB E), .ref (eB E + 255)]) dLM_372 lk_L_124 rfl (by rfl) (Nat.le_of_ble_eq_true rfl) (pw_deed hJ) rfl (by simp) (by first | omega | (dsimp only; omega)) (by first | omega | (dsimp only; omega)) ?_ (fun X G9 h => by obtain ⟨k9, v9, -, h, -⟩ := h; cases h)
  rintro o G1 ⟨k, v, hk, ho, hov, ⟨vs8, hx8⟩, -, dd, hdd, hC⟩
  cases ho
  refine w_istore_5 dLM_375 rfl ?_
  refine w_aload_n dLM_377 rfl ?_
  refine wc_V (rest := []) (As := []) dLM_378 lk_L_129 rfl (by rfl) hx8 rfl rfl (by omega) hC rfl (by simp) (by first | omega | (dsimp only; omega)) (by first | omega | (dsimp only; omega)) ?_ (fun X G9 h => by obtain ⟨r9, h, -⟩ := h; cases h)
  rintro o G2 ⟨r, ho, hr, hT, hO2⟩
  cases ho
  refine w_istore_6 dLM_381 rfl ?_
  exact law_tail hk hr hT (fun c => by obtain ⟨ov, g1, g2⟩ := hov c; exact ⟨ov, g1, hO2.trans g2⟩) (by first | omega | (dsimp only; omega)) (by first | omega | (dsimp only; omega)) dLM_383 dLM_384 dLM_387 dLM_389 dLM_394 dLM_396 dLM_399 dLM_400 dLM_401 dLM_402 dLM_404 dLM_405 dLM_406 dLM_411 (by decide) (by decide) (fun G9 hJ9 => kN G9 _ _ _ hJ9 (by first | omega | (dsimp only; omega)) (by first | omega | (dsimp only; omega)))
theorem law_c3 {E : EV} {G : AH} {cs : Nat × Nat} {v5 v6 : Value} {j : Nat} (hL : (eX E).2.1 ≤ 3072) (hj : j + 6 ≤ (eX E).2.1) (hJ : JJ E G) (h1 : cs.1 + 3 ≤ 601024) (h2 : cs.2 + 18 ≤ 7293034) (kN : ∀ (G9 : AH) (cs9 : Nat × Nat) (u5 u6 : Value), JJ E G9 → cs9.1 ≤ cs.1 + 3 → cs9.2 ≤ cs.2 + 18 → WL E G9 cs9 2655 (LL E j u5 u6) []) : WL E G cs 414 (LL E j v5 v6) [] := by
  obtain ⟨vs7, hx7⟩ := hJ.x7
  refine w_aload_n dLM_414 rfl ?_
  refine w_aload_n dLM_415 rfl ?_
  refine wc_X (rest := []) (As := [.ref (eB E), .ref (eB E + 255)]) dLM_416 lk_L_133 rfl (by rfl) (Nat.le_of_ble_eq_true rfl) (pw_law hJ) rfl (by simp) (by first | omega | (dsimp only; omega)) (by first | omega | (dsimp only; omega)) ?_ (fun X G9 h => by obtain ⟨k9, v9, -, h, -⟩ := h; cases h)
  rintro o G1 ⟨k, v, hk, ho, hov, ⟨vs8, hx8⟩, -, dd, hdd, hC⟩
  cases ho
  refine w_istore_5 dLM_419 rfl ?_
  refine w_aload_n dLM_421 rfl ?_
  refine wc_V (rest := []) (As := []) dLM_422 lk_L_135 rfl (by rfl) hx8 rfl rfl (by omega) hC rfl (by simp) (by first | omega | (dsimp only; omega)) (by first | omega | (dsimp only; omega)) ?_ (fun X G9 h => by obtain ⟨r9, h, -⟩ := h; cases h)
  rintro o G2 ⟨r, ho, hr, hT, hO2⟩
  cases ho
  refine w_istore_6 dLM_425 rfl ?_
  exact law_tail hk hr hT (fun c => by obtain ⟨ov, g1, g2⟩ := hov c; exact ⟨ov, g1, hO2.trans g2⟩) (by first | omega | (dsimp only; omega)) (by first | omega | (dsimp only; omega)) dLM_427 dLM_428 dLM_431 dLM_433 dLM_438 dLM_440 dLM_443 dLM_444 dLM_445 dLM_446 dLM_448 dLM_449 dLM_450 dLM_455 (by decide) (by decide) (fun G9 hJ9 => kN G9 _ _ _ hJ9 (by first | omega | (dsimp only; omega)) (by first | omega | (dsimp only; omega)))
theorem law_c4 {E : EV} {G : AH} {cs : Nat × Nat} {v5 v6 : Value} {j : Nat} (hL : (eX E).2.1 ≤ 3072) (hj : j + 6 ≤ (eX E).2.1) (hJ : JJ E G) (h1 : cs.1 + 3 ≤ 601024) (h2 : cs.2 + 18 ≤ 7293034) (kN : ∀ (G9 : AH) (cs9 : Nat × Nat) (u5 u6 : Value), JJ E G9 → cs9.1 ≤ cs.1 + 3 → cs9.2 ≤ cs.2 + 18 → WL E G9 cs9 2655 (LL E j u5 u6) []) : WL E G cs 458 (LL E j v5 v6) [] := by
  obtain ⟨vs7, hx7⟩ := hJ.x7
  refine w_aload_n dLM_458 rfl ?_
  refine wc_V (rest := []) (As := []) dLM_459 lk_L_136 rfl (by rfl) hx7 rfl rfl (Nat.le_of_ble_eq_true rfl) (pd_fault hJ) rfl (by simp) (by first | omega | (dsimp only; omega)) (by first | omega | (dsimp only; omega)) ?_ (fun X G9 h => by obtain ⟨r9, h, -⟩ := h; cases h)
  rintro o G1 ⟨r, ho, ⟨vs8, hx8⟩, dd, hdd, hC⟩
  cases ho
  refine w_aload_n dLM_462 rfl ?_
  refine wc_V (rest := [.int r]) (As := []) dLM_463 lk_L_139 rfl (by rfl) hx8 rfl rfl (by omega) hC rfl (by simp [Value.category]) (by first | omega | (dsimp only; omega)) (by first | omega | (dsimp only; omega)) ?_ (fun X G9 h => by obtain ⟨r9, h, -⟩ := h; cases h)
  rintro o G2 ⟨r2, ho, rfl, hJ2⟩
  cases ho
  exact w_icmp_eq (tgt := 2655) dLM_466 (by decide) (fun _ => kN _ _ _ _ hJ2 (by first | omega | (dsimp only; omega)) (by first | omega | (dsimp only; omega))) (fun c => absurd rfl c)
theorem law_c5 {E : EV} {G : AH} {cs : Nat × Nat} {v5 v6 : Value} {j : Nat} (hL : (eX E).2.1 ≤ 3072) (hj : j + 6 ≤ (eX E).2.1) (hJ : JJ E G) (h1 : cs.1 + 3 ≤ 601024) (h2 : cs.2 + 18 ≤ 7293034) (kN : ∀ (G9 : AH) (cs9 : Nat × Nat) (u5 u6 : Value), JJ E G9 → cs9.1 ≤ cs.1 + 3 → cs9.2 ≤ cs.2 + 18 → WL E G9 cs9 2655 (LL E j u5 u6) []) : WL E G cs 471 (LL E j v5 v6) [] := by
  obtain ⟨vs7, hx7⟩ := hJ.x7
  refine w_aload_n dLM_471 rfl ?_
  refine w_arg (q := 1) hL hj dLM_472 dLM_473 dLM_475 dLM_476 dLM_477 (by decide) (by decide) (by decide) ?_
  refine w_arg (q := 2) hL hj dLM_478 dLM_479 dLM_481 dLM_482 dLM_483 (by decide) (by decide) (by decide) ?_
  refine w_aload_n dLM_484 rfl ?_
  refine wc_X (rest := []) (As := [.ref (eB E), .int (sc E (j + 1)), .int (sc E (j + 2)), .ref (eB E + 255)]) dLM_485 lk_L_140 rfl (by rfl) (Nat.le_of_ble_eq_true rfl) (pw_item (x := sc E (j + 1)) (w := sc E (j + 2)) hJ) rfl (by simp) (by first | omega | (dsimp only; omega)) (by first | omega | (dsimp only; omega)) ?_ (fun X G9 h => by obtain ⟨k9, v9, -, h, -⟩ := h; cases h)
  rintro o G1 ⟨k, v, hk, ho, hov, ⟨vs8, hx8⟩, -, dd, hdd, hC⟩
  cases ho
  refine w_istore_5 dLM_488 rfl ?_
  refine w_aload_n dLM_490 rfl ?_
  refine w_arg (q := 1) hL hj dLM_491 dLM_492 dLM_494 dLM_495 dLM_496 (by decide) (by decide) (by decide) ?_
  refine w_arg (q := 2) hL hj dLM_497 dLM_498 dLM_500 dLM_501 dLM_502 (by decide) (by decide) (by decide) ?_
  refine wc_V (rest := []) (As := [.int (sc E (j + 1)), .int (sc E (j + 2))]) dLM_503 lk_L_143 rfl (by rfl) hx8 rfl rfl (by omega) hC rfl (by simp) (by first | omega | (dsimp only; omega)) (by first | omega | (dsimp only; omega)) ?_ (fun X G9 h => by obtain ⟨r9, h, -⟩ := h; cases h)
  rintro o G2 ⟨r, ho, hr, hT, hO2⟩
  cases ho
  refine w_istore_6 dLM_506 rfl ?_
  exact law_tail hk hr hT (fun c => by obtain ⟨ov, g1, g2⟩ := hov c; exact ⟨ov, g1, hO2.trans g2⟩) (by first | omega | (dsimp only; omega)) (by first | omega | (dsimp only; omega)) dLM_508 dLM_509 dLM_512 dLM_514 dLM_519 dLM_521 dLM_524 dLM_525 dLM_526 dLM_527 dLM_529 dLM_530 dLM_531 dLM_536 (by decide) (by decide) (fun G9 hJ9 => kN G9 _ _ _ hJ9 (by first | omega | (dsimp only; omega)) (by first | omega | (dsimp only; omega)))
theorem law_c6 {E : EV} {G : AH} {cs : Nat × Nat} {v5 v6 : Value} {j : Nat} (hL : (eX E).2.1 ≤ 3072) (hj : j + 6 ≤ (eX E).2.1) (hJ : JJ E G) (h1 : cs.1 + 3 ≤ 601024) (h2 : cs.2 + 18 ≤ 7293034) (kN : ∀ (G9 : AH) (cs9 : Nat × Nat) (u5 u6 : Value), JJ E G9 → cs9.1 ≤ cs.1 + 3 → cs9.2 ≤ cs.2 + 18 → WL E G9 cs9 2655 (LL E j u5 u6) []) : WL E G cs 539 (LL E j v5 v6) [] := by
  obtain ⟨vs7, hx7⟩ := hJ.x7
  refine w_aload_n dLM_539 rfl ?_
  refine w_arg (q := 1) hL hj dLM_540 dLM_541 dLM_543 dLM_544 dLM_545 (by decide) (by decide) (by decide) ?_
  refine w_arg (q := 2) hL hj dLM_546 dLM_547 dLM_549 dLM_550 dLM_551 (by decide) (by decide) (by decide) ?_
  refine w_aload_n dLM_552 rfl ?_
  refine wc_X (rest := []) (As := [.ref (eB E), .int (sc E (j + 1)), .int (sc E (j + 2)), .ref (eB E + 255)]) dLM_553 lk_L_144 rfl (by rfl) (Nat.le_of_ble_eq_true rfl) (pw_room (x := sc E (j + 1)) (w := sc E (j + 2)) hJ) rfl (by simp) (by first | omega | (dsimp only; omega)) (by first | omega | (dsimp only; omega)) ?_ (fun X G9 h => by obtain ⟨k9, v9, -, h, -⟩ := h; cases h)
  rintro o G1 ⟨k, v, hk, ho, hov, ⟨vs8, hx8⟩, -, dd, hdd, hC⟩
  cases ho
  refine w_istore_5 dLM_556 rfl ?_
  refine w_aload_n dLM_558 rfl ?_
  refine w_arg (q := 1) hL hj dLM_559 dLM_560 dLM_562 dLM_563 dLM_564 (by decide) (by decide) (by decide) ?_
  refine w_arg (q := 2) hL hj dLM_565 dLM_566 dLM_568 dLM_569 dLM_570 (by decide) (by decide) (by decide) ?_
  refine wc_V (rest := []) (As := [.int (sc E (j + 1)), .int (sc E (j + 2))]) dLM_571 lk_L_146 rfl (by rfl) hx8 rfl rfl (by omega) hC rfl (by simp) (by first | omega | (dsimp only; omega)) (by first | omega | (dsimp only; omega)) ?_ (fun X G9 h => by obtain ⟨r9, h, -⟩ := h; cases h)
  rintro o G2 ⟨r, ho, hr, hT, hO2⟩
  cases ho
  refine w_istore_6 dLM_574 rfl ?_
  exact law_tail hk hr hT (fun c => by obtain ⟨ov, g1, g2⟩ := hov c; exact ⟨ov, g1, hO2.trans g2⟩) (by first | omega | (dsimp only; omega)) (by first | omega | (dsimp only; omega)) dLM_576 dLM_577 dLM_580 dLM_582 dLM_587 dLM_589 dLM_592 dLM_593 dLM_594 dLM_595 dLM_597 dLM_598 dLM_599 dLM_604 (by decide) (by decide) (fun G9 hJ9 => kN G9 _ _ _ hJ9 (by first | omega | (dsimp only; omega)) (by first | omega | (dsimp only; omega)))
theorem law_c7 {E : EV} {G : AH} {cs : Nat × Nat} {v5 v6 : Value} {j : Nat} (hL : (eX E).2.1 ≤ 3072) (hj : j + 6 ≤ (eX E).2.1) (hJ : JJ E G) (h1 : cs.1 + 3 ≤ 601024) (h2 : cs.2 + 18 ≤ 7293034) (kN : ∀ (G9 : AH) (cs9 : Nat × Nat) (u5 u6 : Value), JJ E G9 → cs9.1 ≤ cs.1 + 3 → cs9.2 ≤ cs.2 + 18 → WL E G9 cs9 2655 (LL E j u5 u6) []) : WL E G cs 607 (LL E j v5 v6) [] := by
  obtain ⟨vs7, hx7⟩ := hJ.x7
  refine w_aload_n dLM_607 rfl ?_
  refine w_arg (q := 1) hL hj dLM_608 dLM_609 dLM_611 dLM_612 dLM_613 (by decide) (by decide) (by decide) ?_
  refine w_arg (q := 2) hL hj dLM_614 dLM_615 dLM_617 dLM_618 dLM_619 (by decide) (by decide) (by decide) ?_
  refine w_aload_n dLM_620 rfl ?_
  refine wc_X (rest := []) (As := [.ref (eB E), .int (sc E (j + 1)), .int (sc E (j + 2)), .ref (eB E + 255)]) dLM_621 lk_L_147 rfl (by rfl) (Nat.le_of_ble_eq_true rfl) (pw_side (x := sc E (j + 1)) (w := sc E (j + 2)) hJ) rfl (by simp) (by first | omega | (dsimp only; omega)) (by first | omega | (dsimp only; omega)) ?_ (fun X G9 h => by obtain ⟨k9, v9, -, h, -⟩ := h; cases h)
  rintro o G1 ⟨k, v, hk, ho, hov, ⟨vs8, hx8⟩, -, dd, hdd, hC⟩
  cases ho
  refine w_istore_5 dLM_624 rfl ?_
  refine w_aload_n dLM_626 rfl ?_
  refine w_arg (q := 1) hL hj dLM_627 dLM_628 dLM_630 dLM_631 dLM_632 (by decide) (by decide) (by decide) ?_
  refine w_arg (q := 2) hL hj dLM_633 dLM_634 dLM_636 dLM_637 dLM_638 (by decide) (by decide) (by decide) ?_
  refine wc_V (rest := []) (As := [.int (sc E (j + 1)), .int (sc E (j + 2))]) dLM_639 lk_L_149 rfl (by rfl) hx8 rfl rfl (by omega) hC rfl (by simp) (by first | omega | (dsimp only; omega)) (by first | omega | (dsimp only; omega)) ?_ (fun X G9 h => by obtain ⟨r9, h, -⟩ := h; cases h)
  rintro o G2 ⟨r, ho, hr, hT, hO2⟩
  cases ho
  refine w_istore_6 dLM_642 rfl ?_
  exact law_tail hk hr hT (fun c => by obtain ⟨ov, g1, g2⟩ := hov c; exact ⟨ov, g1, hO2.trans g2⟩) (by first | omega | (dsimp only; omega)) (by first | omega | (dsimp only; omega)) dLM_644 dLM_645 dLM_648 dLM_650 dLM_655 dLM_657 dLM_660 dLM_661 dLM_662 dLM_663 dLM_665 dLM_666 dLM_667 dLM_672 (by decide) (by decide) (fun G9 hJ9 => kN G9 _ _ _ hJ9 (by first | omega | (dsimp only; omega)) (by first | omega | (dsimp only; omega)))
theorem law_c8 {E : EV} {G : AH} {cs : Nat × Nat} {v5 v6 : Value} {j : Nat} (hL : (eX E).2.1 ≤ 3072) (hj : j + 6 ≤ (eX E).2.1) (hJ : JJ E G) (h1 : cs.1 + 3 ≤ 601024) (h2 : cs.2 + 18 ≤ 7293034) (kN : ∀ (G9 : AH) (cs9 : Nat × Nat) (u5 u6 : Value), JJ E G9 → cs9.1 ≤ cs.1 + 3 → cs9.2 ≤ cs.2 + 18 → WL E G9 cs9 2655 (LL E j u5 u6) []) : WL E G cs 675 (LL E j v5 v6) [] := by
  obtain ⟨vs7, hx7⟩ := hJ.x7
  refine w_aload_n dLM_675 rfl ?_
  refine w_arg (q := 1) hL hj dLM_676 dLM_677 dLM_679 dLM_680 dLM_681 (by decide) (by decide) (by decide) ?_
  refine w_arg (q := 2) hL hj dLM_682 dLM_683 dLM_685 dLM_686 dLM_687 (by decide) (by decide) (by decide) ?_
  refine w_aload_n dLM_688 rfl ?_
  refine wc_X (rest := []) (As := [.ref (eB E), .int (sc E (j + 1)), .int (sc E (j + 2)), .ref (eB E + 255)]) dLM_689 lk_L_150 rfl (by rfl) (Nat.le_of_ble_eq_true rfl) (pw_does (x := sc E (j + 1)) (w := sc E (j + 2)) hJ) rfl (by simp) (by first | omega | (dsimp only; omega)) (by first | omega | (dsimp only; omega)) ?_ (fun X G9 h => by obtain ⟨k9, v9, -, h, -⟩ := h; cases h)
  rintro o G1 ⟨k, v, hk, ho, hov, ⟨vs8, hx8⟩, -, dd, hdd, hC⟩
  cases ho
  refine w_istore_5 dLM_692 rfl ?_
  refine w_aload_n dLM_694 rfl ?_
  refine w_arg (q := 1) hL hj dLM_695 dLM_696 dLM_698 dLM_699 dLM_700 (by decide) (by decide) (by decide) ?_
  refine w_arg (q := 2) hL hj dLM_701 dLM_702 dLM_704 dLM_705 dLM_706 (by decide) (by decide) (by decide) ?_
  refine wc_V (rest := []) (As := [.int (sc E (j + 1)), .int (sc E (j + 2))]) dLM_707 lk_L_152 rfl (by rfl) hx8 rfl rfl (by omega) hC rfl (by simp) (by first | omega | (dsimp only; omega)) (by first | omega | (dsimp only; omega)) ?_ (fun X G9 h => by obtain ⟨r9, h, -⟩ := h; cases h)
  rintro o G2 ⟨r, ho, hr, hT, hO2⟩
  cases ho
  refine w_istore_6 dLM_710 rfl ?_
  exact law_tail hk hr hT (fun c => by obtain ⟨ov, g1, g2⟩ := hov c; exact ⟨ov, g1, hO2.trans g2⟩) (by first | omega | (dsimp only; omega)) (by first | omega | (dsimp only; omega)) dLM_712 dLM_713 dLM_716 dLM_718 dLM_723 dLM_725 dLM_728 dLM_729 dLM_730 dLM_731 dLM_733 dLM_734 dLM_735 dLM_740 (by decide) (by decide) (fun G9 hJ9 => kN G9 _ _ _ hJ9 (by first | omega | (dsimp only; omega)) (by first | omega | (dsimp only; omega)))
theorem law_c9 {E : EV} {G : AH} {cs : Nat × Nat} {v5 v6 : Value} {j : Nat} (hL : (eX E).2.1 ≤ 3072) (hj : j + 6 ≤ (eX E).2.1) (hJ : JJ E G) (h1 : cs.1 + 3 ≤ 601024) (h2 : cs.2 + 18 ≤ 7293034) (kN : ∀ (G9 : AH) (cs9 : Nat × Nat) (u5 u6 : Value), JJ E G9 → cs9.1 ≤ cs.1 + 3 → cs9.2 ≤ cs.2 + 18 → WL E G9 cs9 2655 (LL E j u5 u6) []) : WL E G cs 743 (LL E j v5 v6) [] := by
  obtain ⟨vs7, hx7⟩ := hJ.x7
  refine w_aload_n dLM_743 rfl ?_
  refine w_arg (q := 1) hL hj dLM_744 dLM_745 dLM_747 dLM_748 dLM_749 (by decide) (by decide) (by decide) ?_
  refine w_arg (q := 2) hL hj dLM_750 dLM_751 dLM_753 dLM_754 dLM_755 (by decide) (by decide) (by decide) ?_
  refine w_aload_n dLM_756 rfl ?_
  refine wc_X (rest := []) (As := [.ref (eB E), .int (sc E (j + 1)), .int (sc E (j + 2)), .ref (eB E + 255)]) dLM_757 lk_L_153 rfl (by rfl) (Nat.le_of_ble_eq_true rfl) (pw_steps (x := sc E (j + 1)) (y := sc E (j + 2)) hJ) rfl (by simp) (by first | omega | (dsimp only; omega)) (by first | omega | (dsimp only; omega)) ?_ (fun X G9 h => by obtain ⟨k9, v9, -, h, -⟩ := h; cases h)
  rintro o G1 ⟨k, v, hk, ho, hov, ⟨vs8, hx8⟩, -, dd, hdd, hC⟩
  cases ho
  refine w_istore_5 dLM_760 rfl ?_
  refine w_aload_n dLM_762 rfl ?_
  refine w_arg (q := 1) hL hj dLM_763 dLM_764 dLM_766 dLM_767 dLM_768 (by decide) (by decide) (by decide) ?_
  refine w_arg (q := 2) hL hj dLM_769 dLM_770 dLM_772 dLM_773 dLM_774 (by decide) (by decide) (by decide) ?_
  refine wc_V (rest := []) (As := [.int (sc E (j + 1)), .int (sc E (j + 2))]) dLM_775 lk_L_155 rfl (by rfl) hx8 rfl rfl (by omega) hC rfl (by simp) (by first | omega | (dsimp only; omega)) (by first | omega | (dsimp only; omega)) ?_ (fun X G9 h => by obtain ⟨r9, h, -⟩ := h; cases h)
  rintro o G2 ⟨r, ho, hr, hT, hO2⟩
  cases ho
  refine w_istore_6 dLM_778 rfl ?_
  exact law_tail hk hr hT (fun c => by obtain ⟨ov, g1, g2⟩ := hov c; exact ⟨ov, g1, hO2.trans g2⟩) (by first | omega | (dsimp only; omega)) (by first | omega | (dsimp only; omega)) dLM_780 dLM_781 dLM_784 dLM_786 dLM_791 dLM_793 dLM_796 dLM_797 dLM_798 dLM_799 dLM_801 dLM_802 dLM_803 dLM_808 (by decide) (by decide) (fun G9 hJ9 => kN G9 _ _ _ hJ9 (by first | omega | (dsimp only; omega)) (by first | omega | (dsimp only; omega)))
theorem law_c10 {E : EV} {G : AH} {cs : Nat × Nat} {v5 v6 : Value} {j : Nat} (hL : (eX E).2.1 ≤ 3072) (hj : j + 6 ≤ (eX E).2.1) (hJ : JJ E G) (h1 : cs.1 + 3 ≤ 601024) (h2 : cs.2 + 18 ≤ 7293034) (kN : ∀ (G9 : AH) (cs9 : Nat × Nat) (u5 u6 : Value), JJ E G9 → cs9.1 ≤ cs.1 + 3 → cs9.2 ≤ cs.2 + 18 → WL E G9 cs9 2655 (LL E j u5 u6) []) : WL E G cs 811 (LL E j v5 v6) [] := by
  obtain ⟨vs7, hx7⟩ := hJ.x7
  refine w_aload_n dLM_811 rfl ?_
  refine w_arg (q := 1) hL hj dLM_812 dLM_813 dLM_815 dLM_816 dLM_817 (by decide) (by decide) (by decide) ?_
  refine w_arg (q := 2) hL hj dLM_818 dLM_819 dLM_821 dLM_822 dLM_823 (by decide) (by decide) (by decide) ?_
  refine w_aload_n dLM_824 rfl ?_
  refine wc_X (rest := []) (As := [.ref (eB E), .int (sc E (j + 1)), .int (sc E (j + 2)), .ref (eB E + 255)]) dLM_825 lk_L_156 rfl (by rfl) (Nat.le_of_ble_eq_true rfl) (pw_carry (x := sc E (j + 1)) (y := sc E (j + 2)) hJ) rfl (by simp) (by first | omega | (dsimp only; omega)) (by first | omega | (dsimp only; omega)) ?_ (fun X G9 h => by obtain ⟨k9, v9, -, h, -⟩ := h; cases h)
  rintro o G1 ⟨k, v, hk, ho, hov, ⟨vs8, hx8⟩, -, dd, hdd, hC⟩
  cases ho
  refine w_istore_5 dLM_828 rfl ?_
  refine w_aload_n dLM_830 rfl ?_
  refine w_arg (q := 1) hL hj dLM_831 dLM_832 dLM_834 dLM_835 dLM_836 (by decide) (by decide) (by decide) ?_
  refine w_arg (q := 2) hL hj dLM_837 dLM_838 dLM_840 dLM_841 dLM_842 (by decide) (by decide) (by decide) ?_
  refine wc_V (rest := []) (As := [.int (sc E (j + 1)), .int (sc E (j + 2))]) dLM_843 lk_L_158 rfl (by rfl) hx8 rfl rfl (by omega) hC rfl (by simp) (by first | omega | (dsimp only; omega)) (by first | omega | (dsimp only; omega)) ?_ (fun X G9 h => by obtain ⟨r9, h, -⟩ := h; cases h)
  rintro o G2 ⟨r, ho, hr, hT, hO2⟩
  cases ho
  refine w_istore_6 dLM_846 rfl ?_
  exact law_tail hk hr hT (fun c => by obtain ⟨ov, g1, g2⟩ := hov c; exact ⟨ov, g1, hO2.trans g2⟩) (by first | omega | (dsimp only; omega)) (by first | omega | (dsimp only; omega)) dLM_848 dLM_849 dLM_852 dLM_854 dLM_859 dLM_861 dLM_864 dLM_865 dLM_866 dLM_867 dLM_869 dLM_870 dLM_871 dLM_876 (by decide) (by decide) (fun G9 hJ9 => kN G9 _ _ _ hJ9 (by first | omega | (dsimp only; omega)) (by first | omega | (dsimp only; omega)))
theorem law_c11 {E : EV} {G : AH} {cs : Nat × Nat} {v5 v6 : Value} {j : Nat} (hL : (eX E).2.1 ≤ 3072) (hj : j + 6 ≤ (eX E).2.1) (hJ : JJ E G) (h1 : cs.1 + 3 ≤ 601024) (h2 : cs.2 + 18 ≤ 7293034) (kN : ∀ (G9 : AH) (cs9 : Nat × Nat) (u5 u6 : Value), JJ E G9 → cs9.1 ≤ cs.1 + 3 → cs9.2 ≤ cs.2 + 18 → WL E G9 cs9 2655 (LL E j u5 u6) []) : WL E G cs 879 (LL E j v5 v6) [] := by
  obtain ⟨vs7, hx7⟩ := hJ.x7
  refine w_aload_n dLM_879 rfl ?_
  refine w_arg (q := 1) hL hj dLM_880 dLM_881 dLM_883 dLM_884 dLM_885 (by decide) (by decide) (by decide) ?_
  refine w_aload_n dLM_886 rfl ?_
  refine wc_X (rest := []) (As := [.ref (eB E), .int (sc E (j + 1)), .ref (eB E + 255)]) dLM_887 lk_L_159 rfl (by rfl) (Nat.le_of_ble_eq_true rfl) (pw_mend (x := sc E (j + 1)) hJ) rfl (by simp) (by first | omega | (dsimp only; omega)) (by first | omega | (dsimp only; omega)) ?_ (fun X G9 h => by obtain ⟨k9, v9, -, h, -⟩ := h; cases h)
  rintro o G1 ⟨k, v, hk, ho, hov, ⟨vs8, hx8⟩, -, dd, hdd, hC⟩
  cases ho
  refine w_istore_5 dLM_890 rfl ?_
  refine w_aload_n dLM_892 rfl ?_
  refine w_arg (q := 1) hL hj dLM_893 dLM_894 dLM_896 dLM_897 dLM_898 (by decide) (by decide) (by decide) ?_
  refine wc_V (rest := []) (As := [.int (sc E (j + 1))]) dLM_899 lk_L_162 rfl (by rfl) hx8 rfl rfl (by omega) hC rfl (by simp) (by first | omega | (dsimp only; omega)) (by first | omega | (dsimp only; omega)) ?_ (fun X G9 h => by obtain ⟨r9, h, -⟩ := h; cases h)
  rintro o G2 ⟨r, ho, hr, hT, hO2⟩
  cases ho
  refine w_istore_6 dLM_902 rfl ?_
  exact law_tail hk hr hT (fun c => by obtain ⟨ov, g1, g2⟩ := hov c; exact ⟨ov, g1, hO2.trans g2⟩) (by first | omega | (dsimp only; omega)) (by first | omega | (dsimp only; omega)) dLM_904 dLM_905 dLM_908 dLM_910 dLM_915 dLM_917 dLM_920 dLM_921 dLM_922 dLM_923 dLM_925 dLM_926 dLM_927 dLM_932 (by decide) (by decide) (fun G9 hJ9 => kN G9 _ _ _ hJ9 (by first | omega | (dsimp only; omega)) (by first | omega | (dsimp only; omega)))
theorem law_c12 {E : EV} {G : AH} {cs : Nat × Nat} {v5 v6 : Value} {j : Nat} (hL : (eX E).2.1 ≤ 3072) (hj : j + 6 ≤ (eX E).2.1) (hJ : JJ E G) (h1 : cs.1 + 3 ≤ 601024) (h2 : cs.2 + 18 ≤ 7293034) (kN : ∀ (G9 : AH) (cs9 : Nat × Nat) (u5 u6 : Value), JJ E G9 → cs9.1 ≤ cs.1 + 3 → cs9.2 ≤ cs.2 + 18 → WL E G9 cs9 2655 (LL E j u5 u6) []) : WL E G cs 935 (LL E j v5 v6) [] := by
  obtain ⟨vs7, hx7⟩ := hJ.x7
  refine w_aload_n dLM_935 rfl ?_
  refine w_arg (q := 1) hL hj dLM_936 dLM_937 dLM_939 dLM_940 dLM_941 (by decide) (by decide) (by decide) ?_
  refine w_aload_n dLM_942 rfl ?_
  refine wc_X (rest := []) (As := [.ref (eB E), .int (sc E (j + 1)), .ref (eB E + 255)]) dLM_943 lk_L_163 rfl (by rfl) (Nat.le_of_ble_eq_true rfl) (pw_sweep (x := sc E (j + 1)) hJ) rfl (by simp) (by first | omega | (dsimp only; omega)) (by first | omega | (dsimp only; omega)) ?_ (fun X G9 h => by obtain ⟨k9, v9, -, h, -⟩ := h; cases h)
  rintro o G1 ⟨k, v, hk, ho, hov, ⟨vs8, hx8⟩, -, dd, hdd, hC⟩
  cases ho
  refine w_istore_5 dLM_946 rfl ?_
  refine w_aload_n dLM_948 rfl ?_
  refine w_arg (q := 1) hL hj dLM_949 dLM_950 dLM_952 dLM_953 dLM_954 (by decide) (by decide) (by decide) ?_
  refine wc_V (rest := []) (As := [.int (sc E (j + 1))]) dLM_955 lk_L_165 rfl (by rfl) hx8 rfl rfl (by omega) hC rfl (by simp) (by first | omega | (dsimp only; omega)) (by first | omega | (dsimp only; omega)) ?_ (fun X G9 h => by obtain ⟨r9, h, -⟩ := h; cases h)
  rintro o G2 ⟨r, ho, hr, hT, hO2⟩
  cases ho
  refine w_istore_6 dLM_958 rfl ?_
  exact law_tail hk hr hT (fun c => by obtain ⟨ov, g1, g2⟩ := hov c; exact ⟨ov, g1, hO2.trans g2⟩) (by first | omega | (dsimp only; omega)) (by first | omega | (dsimp only; omega)) dLM_960 dLM_961 dLM_964 dLM_966 dLM_971 dLM_973 dLM_976 dLM_977 dLM_978 dLM_979 dLM_981 dLM_982 dLM_983 dLM_988 (by decide) (by decide) (fun G9 hJ9 => kN G9 _ _ _ hJ9 (by first | omega | (dsimp only; omega)) (by first | omega | (dsimp only; omega)))
theorem law_c13 {E : EV} {G : AH} {cs : Nat × Nat} {v5 v6 : Value} {j : Nat} (hL : (eX E).2.1 ≤ 3072) (hj : j + 6 ≤ (eX E).2.1) (hJ : JJ E G) (h1 : cs.1 + 3 ≤ 601024) (h2 : cs.2 + 18 ≤ 7293034) (kN : ∀ (G9 : AH) (cs9 : Nat × Nat) (u5 u6 : Value), JJ E G9 → cs9.1 ≤ cs.1 + 3 → cs9.2 ≤ cs.2 + 18 → WL E G9 cs9 2655 (LL E j u5 u6) []) : WL E G cs 991 (LL E j v5 v6) [] := by
  obtain ⟨vs7, hx7⟩ := hJ.x7
  refine w_aload_n dLM_991 rfl ?_
  refine w_arg (q := 1) hL hj dLM_992 dLM_993 dLM_995 dLM_996 dLM_997 (by decide) (by decide) (by decide) ?_
  refine w_arg (q := 2) hL hj dLM_998 dLM_999 dLM_1001 dLM_1002 dLM_1003 (by decide) (by decide) (by decide) ?_
  refine w_aload_n dLM_1004 rfl ?_
  refine wc_X (rest := []) (As := [.ref (eB E), .int (sc E (j + 1)), .int (sc E (j + 2)), .ref (eB E + 255)]) dLM_1005 lk_L_166 rfl (by rfl) (Nat.le_of_ble_eq_true rfl) (pw_pay (x := sc E (j + 1)) (y := sc E (j + 2)) hJ) rfl (by simp) (by first | omega | (dsimp only; omega)) (by first | omega | (dsimp only; omega)) ?_ (fun X G9 h => by obtain ⟨k9, v9, -, h, -⟩ := h; cases h)
  rintro o G1 ⟨k, v, hk, ho, hov, ⟨vs8, hx8⟩, -, dd, hdd, hC⟩
  cases ho
  refine w_istore_5 dLM_1008 rfl ?_
  refine w_aload_n dLM_1010 rfl ?_
  refine w_arg (q := 1) hL hj dLM_1011 dLM_1012 dLM_1014 dLM_1015 dLM_1016 (by decide) (by decide) (by decide) ?_
  refine w_arg (q := 2) hL hj dLM_1017 dLM_1018 dLM_1020 dLM_1021 dLM_1022 (by decide) (by decide) (by decide) ?_
  refine wc_V (rest := []) (As := [.int (sc E (j + 1)), .int (sc E (j + 2))]) dLM_1023 lk_L_168 rfl (by rfl) hx8 rfl rfl (by omega) hC rfl (by simp) (by first | omega | (dsimp only; omega)) (by first | omega | (dsimp only; omega)) ?_ (fun X G9 h => by obtain ⟨r9, h, -⟩ := h; cases h)
  rintro o G2 ⟨r, ho, hr, hT, hO2⟩
  cases ho
  refine w_istore_6 dLM_1026 rfl ?_
  exact law_tail hk hr hT (fun c => by obtain ⟨ov, g1, g2⟩ := hov c; exact ⟨ov, g1, hO2.trans g2⟩) (by first | omega | (dsimp only; omega)) (by first | omega | (dsimp only; omega)) dLM_1028 dLM_1029 dLM_1032 dLM_1034 dLM_1039 dLM_1041 dLM_1044 dLM_1045 dLM_1046 dLM_1047 dLM_1049 dLM_1050 dLM_1051 dLM_1056 (by decide) (by decide) (fun G9 hJ9 => kN G9 _ _ _ hJ9 (by first | omega | (dsimp only; omega)) (by first | omega | (dsimp only; omega)))
theorem law_c14 {E : EV} {G : AH} {cs : Nat × Nat} {v5 v6 : Value} {j : Nat} (hL : (eX E).2.1 ≤ 3072) (hj : j + 6 ≤ (eX E).2.1) (hJ : JJ E G) (h1 : cs.1 + 3 ≤ 601024) (h2 : cs.2 + 18 ≤ 7293034) (kN : ∀ (G9 : AH) (cs9 : Nat × Nat) (u5 u6 : Value), JJ E G9 → cs9.1 ≤ cs.1 + 3 → cs9.2 ≤ cs.2 + 18 → WL E G9 cs9 2655 (LL E j u5 u6) []) : WL E G cs 1059 (LL E j v5 v6) [] := by
  obtain ⟨vs7, hx7⟩ := hJ.x7
  refine w_aload_n dLM_1059 rfl ?_
  refine wc_V (rest := []) (As := []) dLM_1060 lk_L_169 rfl (by rfl) hx7 rfl rfl (Nat.le_of_ble_eq_true rfl) (pd_take hJ) rfl (by simp) (by first | omega | (dsimp only; omega)) (by first | omega | (dsimp only; omega)) ?_ (fun X G9 h => by obtain ⟨r9, h, -⟩ := h; cases h)
  rintro o G1 ⟨r, ho, ⟨vs8, hx8⟩, dd, hdd, hC⟩
  cases ho
  refine w_aload_n dLM_1063 rfl ?_
  refine wc_V (rest := [.int r]) (As := []) dLM_1064 lk_L_172 rfl (by rfl) hx8 rfl rfl (by omega) hC rfl (by simp [Value.category]) (by first | omega | (dsimp only; omega)) (by first | omega | (dsimp only; omega)) ?_ (fun X G9 h => by obtain ⟨r9, h, -⟩ := h; cases h)
  rintro o G2 ⟨r2, ho, rfl, hJ2⟩
  cases ho
  exact w_icmp_eq (tgt := 2655) dLM_1067 (by decide) (fun _ => kN _ _ _ _ hJ2 (by first | omega | (dsimp only; omega)) (by first | omega | (dsimp only; omega))) (fun c => absurd rfl c)
theorem law_c15 {E : EV} {G : AH} {cs : Nat × Nat} {v5 v6 : Value} {j : Nat} (hL : (eX E).2.1 ≤ 3072) (hj : j + 6 ≤ (eX E).2.1) (hJ : JJ E G) (h1 : cs.1 + 3 ≤ 601024) (h2 : cs.2 + 18 ≤ 7293034) (kN : ∀ (G9 : AH) (cs9 : Nat × Nat) (u5 u6 : Value), JJ E G9 → cs9.1 ≤ cs.1 + 3 → cs9.2 ≤ cs.2 + 18 → WL E G9 cs9 2655 (LL E j u5 u6) []) : WL E G cs 1072 (LL E j v5 v6) [] := by
  obtain ⟨vs7, hx7⟩ := hJ.x7
  refine w_aload_n dLM_1072 rfl ?_
  refine w_arg (q := 1) hL hj dLM_1073 dLM_1074 dLM_1076 dLM_1077 dLM_1078 (by decide) (by decide) (by decide) ?_
  refine w_aload_n dLM_1079 rfl ?_
  refine wc_X (rest := []) (As := [.ref (eB E), .int (sc E (j + 1)), .ref (eB E + 255)]) dLM_1080 lk_L_173 rfl (by rfl) (Nat.le_of_ble_eq_true rfl) (pw_days (x := sc E (j + 1)) hJ) rfl (by simp) (by first | omega | (dsimp only; omega)) (by first | omega | (dsimp only; omega)) ?_ (fun X G9 h => by obtain ⟨k9, v9, -, h, -⟩ := h; cases h)
  rintro o G1 ⟨k, v, hk, ho, hov, ⟨vs8, hx8⟩, -, dd, hdd, hC⟩
  cases ho
  refine w_istore_5 dLM_1083 rfl ?_
  refine w_aload_n dLM_1085 rfl ?_
  refine w_arg (q := 1) hL hj dLM_1086 dLM_1087 dLM_1089 dLM_1090 dLM_1091 (by decide) (by decide) (by decide) ?_
  refine wc_V (rest := []) (As := [.int (sc E (j + 1))]) dLM_1092 lk_L_175 rfl (by rfl) hx8 rfl rfl (by omega) hC rfl (by simp) (by first | omega | (dsimp only; omega)) (by first | omega | (dsimp only; omega)) ?_ (fun X G9 h => by obtain ⟨r9, h, -⟩ := h; cases h)
  rintro o G2 ⟨r, ho, hr, hT, hO2⟩
  cases ho
  refine w_istore_6 dLM_1095 rfl ?_
  exact law_tail hk hr hT (fun c => by obtain ⟨ov, g1, g2⟩ := hov c; exact ⟨ov, g1, hO2.trans g2⟩) (by first | omega | (dsimp only; omega)) (by first | omega | (dsimp only; omega)) dLM_1097 dLM_1098 dLM_1101 dLM_1103 dLM_1108 dLM_1110 dLM_1113 dLM_1114 dLM_1115 dLM_1116 dLM_1118 dLM_1119 dLM_1120 dLM_1125 (by decide) (by decide) (fun G9 hJ9 => kN G9 _ _ _ hJ9 (by first | omega | (dsimp only; omega)) (by first | omega | (dsimp only; omega)))
theorem law_c16 {E : EV} {G : AH} {cs : Nat × Nat} {v5 v6 : Value} {j : Nat} (hL : (eX E).2.1 ≤ 3072) (hj : j + 6 ≤ (eX E).2.1) (hJ : JJ E G) (h1 : cs.1 + 3 ≤ 601024) (h2 : cs.2 + 18 ≤ 7293034) (kN : ∀ (G9 : AH) (cs9 : Nat × Nat) (u5 u6 : Value), JJ E G9 → cs9.1 ≤ cs.1 + 3 → cs9.2 ≤ cs.2 + 18 → WL E G9 cs9 2655 (LL E j u5 u6) []) : WL E G cs 1128 (LL E j v5 v6) [] := by
  obtain ⟨vs7, hx7⟩ := hJ.x7
  refine w_aload_n dLM_1128 rfl ?_
  refine w_arg (q := 1) hL hj dLM_1129 dLM_1130 dLM_1132 dLM_1133 dLM_1134 (by decide) (by decide) (by decide) ?_
  refine w_arg (q := 2) hL hj dLM_1135 dLM_1136 dLM_1138 dLM_1139 dLM_1140 (by decide) (by decide) (by decide) ?_
  refine w_arg (q := 3) hL hj dLM_1141 dLM_1142 dLM_1144 dLM_1145 dLM_1146 (by decide) (by decide) (by decide) ?_
  refine w_aload_n dLM_1147 rfl ?_
  refine wc_X (rest := []) (As := [.ref (eB E), .int (sc E (j + 1)), .int (sc E (j + 2)), .int (sc E (j + 3)), .ref (eB E + 255)]) dLM_1148 lk_L_176 rfl (by rfl) (Nat.le_of_ble_eq_true rfl) (pw_ahead (x := sc E (j + 1)) (y := sc E (j + 2)) (w := sc E (j + 3)) hJ) rfl (by simp) (by first | omega | (dsimp only; omega)) (by first | omega | (dsimp only; omega)) ?_ (fun X G9 h => by obtain ⟨k9, v9, -, h, -⟩ := h; cases h)
  rintro o G1 ⟨k, v, hk, ho, hov, ⟨vs8, hx8⟩, -, dd, hdd, hC⟩
  cases ho
  refine w_istore_5 dLM_1151 rfl ?_
  refine w_aload_n dLM_1153 rfl ?_
  refine w_arg (q := 1) hL hj dLM_1154 dLM_1155 dLM_1157 dLM_1158 dLM_1159 (by decide) (by decide) (by decide) ?_
  refine w_arg (q := 2) hL hj dLM_1160 dLM_1161 dLM_1163 dLM_1164 dLM_1165 (by decide) (by decide) (by decide) ?_
  refine w_arg (q := 3) hL hj dLM_1166 dLM_1167 dLM_1169 dLM_1170 dLM_1171 (by decide) (by decide) (by decide) ?_
  refine wc_V (rest := []) (As := [.int (sc E (j + 1)), .int (sc E (j + 2)), .int (sc E (j + 3))]) dLM_1172 lk_L_179 rfl (by rfl) hx8 rfl rfl (by omega) hC rfl (by simp) (by first | omega | (dsimp only; omega)) (by first | omega | (dsimp only; omega)) ?_ (fun X G9 h => by obtain ⟨r9, h, -⟩ := h; cases h)
  rintro o G2 ⟨r, ho, hr, hT, hO2⟩
  cases ho
  refine w_istore_6 dLM_1175 rfl ?_
  exact law_tail hk hr hT (fun c => by obtain ⟨ov, g1, g2⟩ := hov c; exact ⟨ov, g1, hO2.trans g2⟩) (by first | omega | (dsimp only; omega)) (by first | omega | (dsimp only; omega)) dLM_1177 dLM_1178 dLM_1181 dLM_1183 dLM_1188 dLM_1190 dLM_1193 dLM_1194 dLM_1195 dLM_1196 dLM_1198 dLM_1199 dLM_1200 dLM_1205 (by decide) (by decide) (fun G9 hJ9 => kN G9 _ _ _ hJ9 (by first | omega | (dsimp only; omega)) (by first | omega | (dsimp only; omega)))
theorem law_c17 {E : EV} {G : AH} {cs : Nat × Nat} {v5 v6 : Value} {j : Nat} (hL : (eX E).2.1 ≤ 3072) (hj : j + 6 ≤ (eX E).2.1) (hJ : JJ E G) (h1 : cs.1 + 3 ≤ 601024) (h2 : cs.2 + 18 ≤ 7293034) (kN : ∀ (G9 : AH) (cs9 : Nat × Nat) (u5 u6 : Value), JJ E G9 → cs9.1 ≤ cs.1 + 3 → cs9.2 ≤ cs.2 + 18 → WL E G9 cs9 2655 (LL E j u5 u6) []) : WL E G cs 1208 (LL E j v5 v6) [] := by
  obtain ⟨vs7, hx7⟩ := hJ.x7
  refine w_aload_n dLM_1208 rfl ?_
  refine wc_V (rest := []) (As := []) dLM_1209 lk_L_180 rfl (by rfl) hx7 rfl rfl (Nat.le_of_ble_eq_true rfl) (pd_missing hJ) rfl (by simp) (by first | omega | (dsimp only; omega)) (by first | omega | (dsimp only; omega)) ?_ (fun X G9 h => by obtain ⟨r9, h, -⟩ := h; cases h)
  rintro o G1 ⟨r, ho, ⟨vs8, hx8⟩, dd, hdd, hC⟩
  cases ho
  refine w_aload_n dLM_1212 rfl ?_
  refine wc_V (rest := [.int r]) (As := []) dLM_1213 lk_L_183 rfl (by rfl) hx8 rfl rfl (by omega) hC rfl (by simp [Value.category]) (by first | omega | (dsimp only; omega)) (by first | omega | (dsimp only; omega)) ?_ (fun X G9 h => by obtain ⟨r9, h, -⟩ := h; cases h)
  rintro o G2 ⟨r2, ho, rfl, hJ2⟩
  cases ho
  exact w_icmp_eq (tgt := 2655) dLM_1216 (by decide) (fun _ => kN _ _ _ _ hJ2 (by first | omega | (dsimp only; omega)) (by first | omega | (dsimp only; omega))) (fun c => absurd rfl c)
theorem law_c18 {E : EV} {G : AH} {cs : Nat × Nat} {v5 v6 : Value} {j : Nat} (hL : (eX E).2.1 ≤ 3072) (hj : j + 6 ≤ (eX E).2.1) (hJ : JJ E G) (h1 : cs.1 + 3 ≤ 601024) (h2 : cs.2 + 18 ≤ 7293034) (kN : ∀ (G9 : AH) (cs9 : Nat × Nat) (u5 u6 : Value), JJ E G9 → cs9.1 ≤ cs.1 + 3 → cs9.2 ≤ cs.2 + 18 → WL E G9 cs9 2655 (LL E j u5 u6) []) : WL E G cs 1221 (LL E j v5 v6) [] := by
  obtain ⟨vs7, hx7⟩ := hJ.x7
  refine w_aload_n dLM_1221 rfl ?_
  refine wc_V (rest := []) (As := []) dLM_1222 lk_L_184 rfl (by rfl) hx7 rfl rfl (Nat.le_of_ble_eq_true rfl) (pd_worse hJ) rfl (by simp) (by first | omega | (dsimp only; omega)) (by first | omega | (dsimp only; omega)) ?_ (fun X G9 h => by obtain ⟨r9, h, -⟩ := h; cases h)
  rintro o G1 ⟨r, ho, ⟨vs8, hx8⟩, dd, hdd, hC⟩
  cases ho
  refine w_aload_n dLM_1225 rfl ?_
  refine wc_V (rest := [.int r]) (As := []) dLM_1226 lk_L_187 rfl (by rfl) hx8 rfl rfl (by omega) hC rfl (by simp [Value.category]) (by first | omega | (dsimp only; omega)) (by first | omega | (dsimp only; omega)) ?_ (fun X G9 h => by obtain ⟨r9, h, -⟩ := h; cases h)
  rintro o G2 ⟨r2, ho, rfl, hJ2⟩
  cases ho
  exact w_icmp_eq (tgt := 2655) dLM_1229 (by decide) (fun _ => kN _ _ _ _ hJ2 (by first | omega | (dsimp only; omega)) (by first | omega | (dsimp only; omega))) (fun c => absurd rfl c)
theorem law_c19 {E : EV} {G : AH} {cs : Nat × Nat} {v5 v6 : Value} {j : Nat} (hL : (eX E).2.1 ≤ 3072) (hj : j + 6 ≤ (eX E).2.1) (hJ : JJ E G) (h1 : cs.1 + 3 ≤ 601024) (h2 : cs.2 + 18 ≤ 7293034) (kN : ∀ (G9 : AH) (cs9 : Nat × Nat) (u5 u6 : Value), JJ E G9 → cs9.1 ≤ cs.1 + 3 → cs9.2 ≤ cs.2 + 18 → WL E G9 cs9 2655 (LL E j u5 u6) []) : WL E G cs 1234 (LL E j v5 v6) [] := by
  obtain ⟨vs7, hx7⟩ := hJ.x7
  refine w_aload_n dLM_1234 rfl ?_
  refine wc_V (rest := []) (As := []) dLM_1235 lk_L_188 rfl (by rfl) hx7 rfl rfl (Nat.le_of_ble_eq_true rfl) (pd_mislaid hJ) rfl (by simp) (by first | omega | (dsimp only; omega)) (by first | omega | (dsimp only; omega)) ?_ (fun X G9 h => by obtain ⟨r9, h, -⟩ := h; cases h)
  rintro o G1 ⟨r, ho, ⟨vs8, hx8⟩, dd, hdd, hC⟩
  cases ho
  refine w_aload_n dLM_1238 rfl ?_
  refine wc_V (rest := [.int r]) (As := []) dLM_1239 lk_L_191 rfl (by rfl) hx8 rfl rfl (by omega) hC rfl (by simp [Value.category]) (by first | omega | (dsimp only; omega)) (by first | omega | (dsimp only; omega)) ?_ (fun X G9 h => by obtain ⟨r9, h, -⟩ := h; cases h)
  rintro o G2 ⟨r2, ho, rfl, hJ2⟩
  cases ho
  exact w_icmp_eq (tgt := 2655) dLM_1242 (by decide) (fun _ => kN _ _ _ _ hJ2 (by first | omega | (dsimp only; omega)) (by first | omega | (dsimp only; omega))) (fun c => absurd rfl c)
theorem law_c20 {E : EV} {G : AH} {cs : Nat × Nat} {v5 v6 : Value} {j : Nat} (hL : (eX E).2.1 ≤ 3072) (hj : j + 6 ≤ (eX E).2.1) (hJ : JJ E G) (h1 : cs.1 + 3 ≤ 601024) (h2 : cs.2 + 18 ≤ 7293034) (kN : ∀ (G9 : AH) (cs9 : Nat × Nat) (u5 u6 : Value), JJ E G9 → cs9.1 ≤ cs.1 + 3 → cs9.2 ≤ cs.2 + 18 → WL E G9 cs9 2655 (LL E j u5 u6) []) : WL E G cs 1247 (LL E j v5 v6) [] := by
  obtain ⟨vs7, hx7⟩ := hJ.x7
  refine w_aload_n dLM_1247 rfl ?_
  refine wc_V (rest := []) (As := []) dLM_1248 lk_L_192 rfl (by rfl) hx7 rfl rfl (Nat.le_of_ble_eq_true rfl) (pd_work hJ) rfl (by simp) (by first | omega | (dsimp only; omega)) (by first | omega | (dsimp only; omega)) ?_ (fun X G9 h => by obtain ⟨r9, h, -⟩ := h; cases h)
  rintro o G1 ⟨r, ho, ⟨vs8, hx8⟩, dd, hdd, hC⟩
  cases ho
  refine w_aload_n dLM_1251 rfl ?_
  refine wc_V (rest := [.int r]) (As := []) dLM_1252 lk_L_195 rfl (by rfl) hx8 rfl rfl (by omega) hC rfl (by simp [Value.category]) (by first | omega | (dsimp only; omega)) (by first | omega | (dsimp only; omega)) ?_ (fun X G9 h => by obtain ⟨r9, h, -⟩ := h; cases h)
  rintro o G2 ⟨r2, ho, rfl, hJ2⟩
  cases ho
  exact w_icmp_eq (tgt := 2655) dLM_1255 (by decide) (fun _ => kN _ _ _ _ hJ2 (by first | omega | (dsimp only; omega)) (by first | omega | (dsimp only; omega))) (fun c => absurd rfl c)
theorem law_c21 {E : EV} {G : AH} {cs : Nat × Nat} {v5 v6 : Value} {j : Nat} (hL : (eX E).2.1 ≤ 3072) (hj : j + 6 ≤ (eX E).2.1) (hJ : JJ E G) (h1 : cs.1 + 3 ≤ 601024) (h2 : cs.2 + 18 ≤ 7293034) (kN : ∀ (G9 : AH) (cs9 : Nat × Nat) (u5 u6 : Value), JJ E G9 → cs9.1 ≤ cs.1 + 3 → cs9.2 ≤ cs.2 + 18 → WL E G9 cs9 2655 (LL E j u5 u6) []) : WL E G cs 1260 (LL E j v5 v6) [] := by
  obtain ⟨vs7, hx7⟩ := hJ.x7
  refine w_aload_n dLM_1260 rfl ?_
  refine w_argB (q := 1) hL hj dLM_1261 dLM_1262 dLM_1264 dLM_1265 dLM_1266 dLM_1267 dLM_1270 dLM_1271 dLM_1274 (by decide) (by decide) (by decide) ?_
  refine wc_V (rest := []) (As := [.int (nI (bz E (j + 1)))]) dLM_1275 lk_L_196 rfl (by rfl) hx7 rfl rfl (Nat.le_of_ble_eq_true rfl) (pd_first (it := bz E (j + 1)) bz_le hJ) rfl (by simp) (by first | omega | (dsimp only; omega)) (by first | omega | (dsimp only; omega)) ?_ (fun X G9 h => by obtain ⟨r9, h, -⟩ := h; cases h)
  rintro o G1 ⟨r, ho, ⟨vs8, hx8⟩, dd, hdd, hC⟩
  cases ho
  refine w_aload_n dLM_1278 rfl ?_
  refine w_argB (q := 1) hL hj dLM_1279 dLM_1280 dLM_1282 dLM_1283 dLM_1284 dLM_1285 dLM_1288 dLM_1289 dLM_1292 (by decide) (by decide) (by decide) ?_
  refine wc_V (rest := [.int r]) (As := [.int (nI (bz E (j + 1)))]) dLM_1293 lk_L_199 rfl (by rfl) hx8 rfl rfl (by omega) hC rfl (by simp [Value.category]) (by first | omega | (dsimp only; omega)) (by first | omega | (dsimp only; omega)) ?_ (fun X G9 h => by obtain ⟨r9, h, -⟩ := h; cases h)
  rintro o G2 ⟨r2, ho, rfl, hJ2⟩
  cases ho
  exact w_icmp_eq (tgt := 2655) dLM_1296 (by decide) (fun _ => kN _ _ _ _ hJ2 (by first | omega | (dsimp only; omega)) (by first | omega | (dsimp only; omega))) (fun c => absurd rfl c)
theorem law_c22 {E : EV} {G : AH} {cs : Nat × Nat} {v5 v6 : Value} {j : Nat} (hL : (eX E).2.1 ≤ 3072) (hj : j + 6 ≤ (eX E).2.1) (hJ : JJ E G) (h1 : cs.1 + 3 ≤ 601024) (h2 : cs.2 + 18 ≤ 7293034) (kN : ∀ (G9 : AH) (cs9 : Nat × Nat) (u5 u6 : Value), JJ E G9 → cs9.1 ≤ cs.1 + 3 → cs9.2 ≤ cs.2 + 18 → WL E G9 cs9 2655 (LL E j u5 u6) []) : WL E G cs 1301 (LL E j v5 v6) [] := by
  obtain ⟨vs7, hx7⟩ := hJ.x7
  refine w_aload_n dLM_1301 rfl ?_
  refine wc_V (rest := []) (As := []) dLM_1302 lk_L_200 rfl (by rfl) hx7 rfl rfl (Nat.le_of_ble_eq_true rfl) (pd_round hJ) rfl (by simp) (by first | omega | (dsimp only; omega)) (by first | omega | (dsimp only; omega)) ?_ (fun X G9 h => by obtain ⟨r9, h, -⟩ := h; cases h)
  rintro o G1 ⟨r, ho, ⟨vs8, hx8⟩, dd, hdd, hC⟩
  cases ho
  refine w_aload_n dLM_1305 rfl ?_
  refine wc_V (rest := [.int r]) (As := []) dLM_1306 lk_L_203 rfl (by rfl) hx8 rfl rfl (by omega) hC rfl (by simp [Value.category]) (by first | omega | (dsimp only; omega)) (by first | omega | (dsimp only; omega)) ?_ (fun X G9 h => by obtain ⟨r9, h, -⟩ := h; cases h)
  rintro o G2 ⟨r2, ho, rfl, hJ2⟩
  cases ho
  exact w_icmp_eq (tgt := 2655) dLM_1309 (by decide) (fun _ => kN _ _ _ _ hJ2 (by first | omega | (dsimp only; omega)) (by first | omega | (dsimp only; omega))) (fun c => absurd rfl c)
theorem law_c23 {E : EV} {G : AH} {cs : Nat × Nat} {v5 v6 : Value} {j : Nat} (hL : (eX E).2.1 ≤ 3072) (hj : j + 6 ≤ (eX E).2.1) (hJ : JJ E G) (h1 : cs.1 + 3 ≤ 601024) (h2 : cs.2 + 18 ≤ 7293034) (kN : ∀ (G9 : AH) (cs9 : Nat × Nat) (u5 u6 : Value), JJ E G9 → cs9.1 ≤ cs.1 + 3 → cs9.2 ≤ cs.2 + 18 → WL E G9 cs9 2655 (LL E j u5 u6) []) : WL E G cs 1314 (LL E j v5 v6) [] := by
  obtain ⟨vs7, hx7⟩ := hJ.x7
  refine w_aload_n dLM_1314 rfl ?_
  refine w_arg (q := 1) hL hj dLM_1315 dLM_1316 dLM_1318 dLM_1319 dLM_1320 (by decide) (by decide) (by decide) ?_
  refine w_aload_n dLM_1321 rfl ?_
  refine wc_X (rest := []) (As := [.ref (eB E), .int (sc E (j + 1)), .ref (eB E + 255)]) dLM_1322 lk_L_204 rfl (by rfl) (Nat.le_of_ble_eq_true rfl) (pw_worst (x := sc E (j + 1)) hJ) rfl (by simp) (by first | omega | (dsimp only; omega)) (by first | omega | (dsimp only; omega)) ?_ (fun X G9 h => by obtain ⟨k9, v9, -, h, -⟩ := h; cases h)
  rintro o G1 ⟨k, v, hk, ho, hov, ⟨vs8, hx8⟩, -, dd, hdd, hC⟩
  cases ho
  refine w_istore_5 dLM_1325 rfl ?_
  refine w_aload_n dLM_1327 rfl ?_
  refine w_arg (q := 1) hL hj dLM_1328 dLM_1329 dLM_1331 dLM_1332 dLM_1333 (by decide) (by decide) (by decide) ?_
  refine wc_V (rest := []) (As := [.int (sc E (j + 1))]) dLM_1334 lk_L_206 rfl (by rfl) hx8 rfl rfl (by omega) hC rfl (by simp) (by first | omega | (dsimp only; omega)) (by first | omega | (dsimp only; omega)) ?_ (fun X G9 h => by obtain ⟨r9, h, -⟩ := h; cases h)
  rintro o G2 ⟨r, ho, hr, hT, hO2⟩
  cases ho
  refine w_istore_6 dLM_1337 rfl ?_
  exact law_tail hk hr hT (fun c => by obtain ⟨ov, g1, g2⟩ := hov c; exact ⟨ov, g1, hO2.trans g2⟩) (by first | omega | (dsimp only; omega)) (by first | omega | (dsimp only; omega)) dLM_1339 dLM_1340 dLM_1343 dLM_1345 dLM_1350 dLM_1352 dLM_1355 dLM_1356 dLM_1357 dLM_1358 dLM_1360 dLM_1361 dLM_1362 dLM_1367 (by decide) (by decide) (fun G9 hJ9 => kN G9 _ _ _ hJ9 (by first | omega | (dsimp only; omega)) (by first | omega | (dsimp only; omega)))
theorem law_c24 {E : EV} {G : AH} {cs : Nat × Nat} {v5 v6 : Value} {j : Nat} (hL : (eX E).2.1 ≤ 3072) (hj : j + 6 ≤ (eX E).2.1) (hJ : JJ E G) (h1 : cs.1 + 3 ≤ 601024) (h2 : cs.2 + 18 ≤ 7293034) (kN : ∀ (G9 : AH) (cs9 : Nat × Nat) (u5 u6 : Value), JJ E G9 → cs9.1 ≤ cs.1 + 3 → cs9.2 ≤ cs.2 + 18 → WL E G9 cs9 2655 (LL E j u5 u6) []) : WL E G cs 1370 (LL E j v5 v6) [] := by
  obtain ⟨vs7, hx7⟩ := hJ.x7
  refine w_aload_n dLM_1370 rfl ?_
  refine w_arg (q := 1) hL hj dLM_1371 dLM_1372 dLM_1374 dLM_1375 dLM_1376 (by decide) (by decide) (by decide) ?_
  refine w_argB (q := 2) hL hj dLM_1377 dLM_1378 dLM_1380 dLM_1381 dLM_1382 dLM_1383 dLM_1386 dLM_1387 dLM_1390 (by decide) (by decide) (by decide) ?_
  refine w_aload_n dLM_1391 rfl ?_
  refine wc_X (rest := []) (As := [.ref (eB E), .int (sc E (j + 1)), .int (nI (bz E (j + 2))), .ref (eB E + 255)]) dLM_1392 lk_L_207 rfl (by rfl) (Nat.le_of_ble_eq_true rfl) (pw_saves (x := sc E (j + 1)) (mu := bz E (j + 2)) bz_lt hJ) rfl (by simp) (by first | omega | (dsimp only; omega)) (by first | omega | (dsimp only; omega)) ?_ (fun X G9 h => by obtain ⟨k9, v9, -, h, -⟩ := h; cases h)
  rintro o G1 ⟨k, v, hk, ho, hov, ⟨vs8, hx8⟩, -, dd, hdd, hC⟩
  cases ho
  refine w_istore_5 dLM_1395 rfl ?_
  refine w_aload_n dLM_1397 rfl ?_
  refine w_arg (q := 1) hL hj dLM_1398 dLM_1399 dLM_1401 dLM_1402 dLM_1403 (by decide) (by decide) (by decide) ?_
  refine w_argB (q := 2) hL hj dLM_1404 dLM_1405 dLM_1407 dLM_1408 dLM_1409 dLM_1410 dLM_1413 dLM_1414 dLM_1417 (by decide) (by decide) (by decide) ?_
  refine wc_V (rest := []) (As := [.int (sc E (j + 1)), .int (nI (bz E (j + 2)))]) dLM_1418 lk_L_210 rfl (by rfl) hx8 rfl rfl (by omega) hC rfl (by simp) (by first | omega | (dsimp only; omega)) (by first | omega | (dsimp only; omega)) ?_ (fun X G9 h => by obtain ⟨r9, h, -⟩ := h; cases h)
  rintro o G2 ⟨r, ho, hr, hT, hO2⟩
  cases ho
  refine w_istore_6 dLM_1421 rfl ?_
  exact law_tail hk hr hT (fun c => by obtain ⟨ov, g1, g2⟩ := hov c; exact ⟨ov, g1, hO2.trans g2⟩) (by first | omega | (dsimp only; omega)) (by first | omega | (dsimp only; omega)) dLM_1423 dLM_1424 dLM_1427 dLM_1429 dLM_1434 dLM_1436 dLM_1439 dLM_1440 dLM_1441 dLM_1442 dLM_1444 dLM_1445 dLM_1446 dLM_1451 (by decide) (by decide) (fun G9 hJ9 => kN G9 _ _ _ hJ9 (by first | omega | (dsimp only; omega)) (by first | omega | (dsimp only; omega)))
theorem law_c25 {E : EV} {G : AH} {cs : Nat × Nat} {v5 v6 : Value} {j : Nat} (hL : (eX E).2.1 ≤ 3072) (hj : j + 6 ≤ (eX E).2.1) (hJ : JJ E G) (h1 : cs.1 + 3 ≤ 601024) (h2 : cs.2 + 18 ≤ 7293034) (kN : ∀ (G9 : AH) (cs9 : Nat × Nat) (u5 u6 : Value), JJ E G9 → cs9.1 ≤ cs.1 + 3 → cs9.2 ≤ cs.2 + 18 → WL E G9 cs9 2655 (LL E j u5 u6) []) : WL E G cs 1454 (LL E j v5 v6) [] := by
  obtain ⟨vs7, hx7⟩ := hJ.x7
  refine w_aload_n dLM_1454 rfl ?_
  refine w_arg (q := 1) hL hj dLM_1455 dLM_1456 dLM_1458 dLM_1459 dLM_1460 (by decide) (by decide) (by decide) ?_
  refine wc_V (rest := []) (As := [.int (sc E (j + 1))]) dLM_1461 lk_L_211 rfl (by rfl) hx7 rfl rfl (Nat.le_of_ble_eq_true rfl) (pd_search (x := sc E (j + 1)) hJ) rfl (by simp) (by first | omega | (dsimp only; omega)) (by first | omega | (dsimp only; omega)) ?_ (fun X G9 h => by obtain ⟨r9, h, -⟩ := h; cases h)
  rintro o G1 ⟨r, ho, ⟨vs8, hx8⟩, dd, hdd, hC⟩
  cases ho
  refine w_aload_n dLM_1464 rfl ?_
  refine w_arg (q := 1) hL hj dLM_1465 dLM_1466 dLM_1468 dLM_1469 dLM_1470 (by decide) (by decide) (by decide) ?_
  refine wc_V (rest := [.int r]) (As := [.int (sc E (j + 1))]) dLM_1471 lk_L_214 rfl (by rfl) hx8 rfl rfl (by omega) hC rfl (by simp [Value.category]) (by first | omega | (dsimp only; omega)) (by first | omega | (dsimp only; omega)) ?_ (fun X G9 h => by obtain ⟨r9, h, -⟩ := h; cases h)
  rintro o G2 ⟨r2, ho, rfl, hJ2⟩
  cases ho
  exact w_icmp_eq (tgt := 2655) dLM_1474 (by decide) (fun _ => kN _ _ _ _ hJ2 (by first | omega | (dsimp only; omega)) (by first | omega | (dsimp only; omega))) (fun c => absurd rfl c)
theorem law_c26 {E : EV} {G : AH} {cs : Nat × Nat} {v5 v6 : Value} {j : Nat} (hL : (eX E).2.1 ≤ 3072) (hj : j + 6 ≤ (eX E).2.1) (hJ : JJ E G) (h1 : cs.1 + 3 ≤ 601024) (h2 : cs.2 + 18 ≤ 7293034) (kN : ∀ (G9 : AH) (cs9 : Nat × Nat) (u5 u6 : Value), JJ E G9 → cs9.1 ≤ cs.1 + 3 → cs9.2 ≤ cs.2 + 18 → WL E G9 cs9 2655 (LL E j u5 u6) []) : WL E G cs 1479 (LL E j v5 v6) [] := by
  obtain ⟨vs7, hx7⟩ := hJ.x7
  refine w_aload_n dLM_1479 rfl ?_
  refine wc_V (rest := []) (As := []) dLM_1480 lk_L_215 rfl (by rfl) hx7 rfl rfl (Nat.le_of_ble_eq_true rfl) (pd_costs hJ) rfl (by simp) (by first | omega | (dsimp only; omega)) (by first | omega | (dsimp only; omega)) ?_ (fun X G9 h => by obtain ⟨r9, h, -⟩ := h; cases h)
  rintro o G1 ⟨r, ho, ⟨vs8, hx8⟩, dd, hdd, hC⟩
  cases ho
  refine w_aload_n dLM_1483 rfl ?_
  refine wc_V (rest := [.int r]) (As := []) dLM_1484 lk_L_218 rfl (by rfl) hx8 rfl rfl (by omega) hC rfl (by simp [Value.category]) (by first | omega | (dsimp only; omega)) (by first | omega | (dsimp only; omega)) ?_ (fun X G9 h => by obtain ⟨r9, h, -⟩ := h; cases h)
  rintro o G2 ⟨r2, ho, rfl, hJ2⟩
  cases ho
  exact w_icmp_eq (tgt := 2655) dLM_1487 (by decide) (fun _ => kN _ _ _ _ hJ2 (by first | omega | (dsimp only; omega)) (by first | omega | (dsimp only; omega))) (fun c => absurd rfl c)
theorem law_c27 {E : EV} {G : AH} {cs : Nat × Nat} {v5 v6 : Value} {j : Nat} (hL : (eX E).2.1 ≤ 3072) (hj : j + 6 ≤ (eX E).2.1) (hJ : JJ E G) (h1 : cs.1 + 3 ≤ 601024) (h2 : cs.2 + 18 ≤ 7293034) (kN : ∀ (G9 : AH) (cs9 : Nat × Nat) (u5 u6 : Value), JJ E G9 → cs9.1 ≤ cs.1 + 3 → cs9.2 ≤ cs.2 + 18 → WL E G9 cs9 2655 (LL E j u5 u6) []) : WL E G cs 1492 (LL E j v5 v6) [] := by
  obtain ⟨vs7, hx7⟩ := hJ.x7
  refine w_aload_n dLM_1492 rfl ?_
  refine w_arg (q := 1) hL hj dLM_1493 dLM_1494 dLM_1496 dLM_1497 dLM_1498 (by decide) (by decide) (by decide) ?_
  refine w_arg (q := 2) hL hj dLM_1499 dLM_1500 dLM_1502 dLM_1503 dLM_1504 (by decide) (by decide) (by decide) ?_
  refine w_aload_n dLM_1505 rfl ?_
  refine wc_X (rest := []) (As := [.ref (eB E), .int (sc E (j + 1)), .int (sc E (j + 2)), .ref (eB E + 255)]) dLM_1506 lk_L_219 rfl (by rfl) (Nat.le_of_ble_eq_true rfl) (pw_calm (x := sc E (j + 1)) (k := sc E (j + 2)) hJ) rfl (by simp) (by first | omega | (dsimp only; omega)) (by first | omega | (dsimp only; omega)) ?_ (fun X G9 h => by obtain ⟨k9, v9, -, h, -⟩ := h; cases h)
  rintro o G1 ⟨k, v, hk, ho, hov, ⟨vs8, hx8⟩, -, dd, hdd, hC⟩
  cases ho
  refine w_istore_5 dLM_1509 rfl ?_
  refine w_aload_n dLM_1511 rfl ?_
  refine w_arg (q := 1) hL hj dLM_1512 dLM_1513 dLM_1515 dLM_1516 dLM_1517 (by decide) (by decide) (by decide) ?_
  refine w_arg (q := 2) hL hj dLM_1518 dLM_1519 dLM_1521 dLM_1522 dLM_1523 (by decide) (by decide) (by decide) ?_
  refine wc_V (rest := []) (As := [.int (sc E (j + 1)), .int (sc E (j + 2))]) dLM_1524 lk_L_221 rfl (by rfl) hx8 rfl rfl (by omega) hC rfl (by simp) (by first | omega | (dsimp only; omega)) (by first | omega | (dsimp only; omega)) ?_ (fun X G9 h => by obtain ⟨r9, h, -⟩ := h; cases h)
  rintro o G2 ⟨r, ho, hr, hT, hO2⟩
  cases ho
  refine w_istore_6 dLM_1527 rfl ?_
  exact law_tail hk hr hT (fun c => by obtain ⟨ov, g1, g2⟩ := hov c; exact ⟨ov, g1, hO2.trans g2⟩) (by first | omega | (dsimp only; omega)) (by first | omega | (dsimp only; omega)) dLM_1529 dLM_1530 dLM_1533 dLM_1535 dLM_1540 dLM_1542 dLM_1545 dLM_1546 dLM_1547 dLM_1548 dLM_1550 dLM_1551 dLM_1552 dLM_1557 (by decide) (by decide) (fun G9 hJ9 => kN G9 _ _ _ hJ9 (by first | omega | (dsimp only; omega)) (by first | omega | (dsimp only; omega)))
theorem law_c28 {E : EV} {G : AH} {cs : Nat × Nat} {v5 v6 : Value} {j : Nat} (hL : (eX E).2.1 ≤ 3072) (hj : j + 6 ≤ (eX E).2.1) (hJ : JJ E G) (h1 : cs.1 + 3 ≤ 601024) (h2 : cs.2 + 18 ≤ 7293034) (kN : ∀ (G9 : AH) (cs9 : Nat × Nat) (u5 u6 : Value), JJ E G9 → cs9.1 ≤ cs.1 + 3 → cs9.2 ≤ cs.2 + 18 → WL E G9 cs9 2655 (LL E j u5 u6) []) : WL E G cs 1560 (LL E j v5 v6) [] := by
  obtain ⟨vs7, hx7⟩ := hJ.x7
  refine w_aload_n dLM_1560 rfl ?_
  refine w_arg (q := 1) hL hj dLM_1561 dLM_1562 dLM_1564 dLM_1565 dLM_1566 (by decide) (by decide) (by decide) ?_
  refine w_arg (q := 2) hL hj dLM_1567 dLM_1568 dLM_1570 dLM_1571 dLM_1572 (by decide) (by decide) (by decide) ?_
  refine w_arg (q := 3) hL hj dLM_1573 dLM_1574 dLM_1576 dLM_1577 dLM_1578 (by decide) (by decide) (by decide) ?_
  refine w_aload_n dLM_1579 rfl ?_
  refine wc_X (rest := []) (As := [.ref (eB E), .int (sc E (j + 1)), .int (sc E (j + 2)), .int (sc E (j + 3)), .ref (eB E + 255)]) dLM_1580 lk_L_222 rfl (by rfl) (Nat.le_of_ble_eq_true rfl) (pw_boats (x := sc E (j + 1)) (y := sc E (j + 2)) (z := sc E (j + 3)) hJ) rfl (by simp) (by first | omega | (dsimp only; omega)) (by first | omega | (dsimp only; omega)) ?_ (fun X G9 h => by obtain ⟨k9, v9, -, h, -⟩ := h; cases h)
  rintro o G1 ⟨k, v, hk, ho, hov, ⟨vs8, hx8⟩, -, dd, hdd, hC⟩
  cases ho
  refine w_istore_5 dLM_1583 rfl ?_
  refine w_aload_n dLM_1585 rfl ?_
  refine w_arg (q := 1) hL hj dLM_1586 dLM_1587 dLM_1589 dLM_1590 dLM_1591 (by decide) (by decide) (by decide) ?_
  refine w_arg (q := 2) hL hj dLM_1592 dLM_1593 dLM_1595 dLM_1596 dLM_1597 (by decide) (by decide) (by decide) ?_
  refine w_arg (q := 3) hL hj dLM_1598 dLM_1599 dLM_1601 dLM_1602 dLM_1603 (by decide) (by decide) (by decide) ?_
  refine wc_V (rest := []) (As := [.int (sc E (j + 1)), .int (sc E (j + 2)), .int (sc E (j + 3))]) dLM_1604 lk_L_224 rfl (by rfl) hx8 rfl rfl (by omega) hC rfl (by simp) (by first | omega | (dsimp only; omega)) (by first | omega | (dsimp only; omega)) ?_ (fun X G9 h => by obtain ⟨r9, h, -⟩ := h; cases h)
  rintro o G2 ⟨r, ho, hr, hT, hO2⟩
  cases ho
  refine w_istore_6 dLM_1607 rfl ?_
  exact law_tail hk hr hT (fun c => by obtain ⟨ov, g1, g2⟩ := hov c; exact ⟨ov, g1, hO2.trans g2⟩) (by first | omega | (dsimp only; omega)) (by first | omega | (dsimp only; omega)) dLM_1609 dLM_1610 dLM_1613 dLM_1615 dLM_1620 dLM_1622 dLM_1625 dLM_1626 dLM_1627 dLM_1628 dLM_1630 dLM_1631 dLM_1632 dLM_1637 (by decide) (by decide) (fun G9 hJ9 => kN G9 _ _ _ hJ9 (by first | omega | (dsimp only; omega)) (by first | omega | (dsimp only; omega)))
theorem law_c29 {E : EV} {G : AH} {cs : Nat × Nat} {v5 v6 : Value} {j : Nat} (hL : (eX E).2.1 ≤ 3072) (hj : j + 6 ≤ (eX E).2.1) (hJ : JJ E G) (h1 : cs.1 + 3 ≤ 601024) (h2 : cs.2 + 18 ≤ 7293034) (kN : ∀ (G9 : AH) (cs9 : Nat × Nat) (u5 u6 : Value), JJ E G9 → cs9.1 ≤ cs.1 + 3 → cs9.2 ≤ cs.2 + 18 → WL E G9 cs9 2655 (LL E j u5 u6) []) : WL E G cs 1640 (LL E j v5 v6) [] := by
  obtain ⟨vs7, hx7⟩ := hJ.x7
  refine w_aload_n dLM_1640 rfl ?_
  refine wc_V (rest := []) (As := []) dLM_1641 lk_L_225 rfl (by rfl) hx7 rfl rfl (Nat.le_of_ble_eq_true rfl) (pd_rests hJ) rfl (by simp) (by first | omega | (dsimp only; omega)) (by first | omega | (dsimp only; omega)) ?_ (fun X G9 h => by obtain ⟨r9, h, -⟩ := h; cases h)
  rintro o G1 ⟨r, ho, ⟨vs8, hx8⟩, dd, hdd, hC⟩
  cases ho
  refine w_aload_n dLM_1644 rfl ?_
  refine wc_V (rest := [.int r]) (As := []) dLM_1645 lk_L_228 rfl (by rfl) hx8 rfl rfl (by omega) hC rfl (by simp [Value.category]) (by first | omega | (dsimp only; omega)) (by first | omega | (dsimp only; omega)) ?_ (fun X G9 h => by obtain ⟨r9, h, -⟩ := h; cases h)
  rintro o G2 ⟨r2, ho, rfl, hJ2⟩
  cases ho
  exact w_icmp_eq (tgt := 2655) dLM_1648 (by decide) (fun _ => kN _ _ _ _ hJ2 (by first | omega | (dsimp only; omega)) (by first | omega | (dsimp only; omega))) (fun c => absurd rfl c)
theorem law_c30 {E : EV} {G : AH} {cs : Nat × Nat} {v5 v6 : Value} {j : Nat} (hL : (eX E).2.1 ≤ 3072) (hj : j + 6 ≤ (eX E).2.1) (hJ : JJ E G) (h1 : cs.1 + 3 ≤ 601024) (h2 : cs.2 + 18 ≤ 7293034) (kN : ∀ (G9 : AH) (cs9 : Nat × Nat) (u5 u6 : Value), JJ E G9 → cs9.1 ≤ cs.1 + 3 → cs9.2 ≤ cs.2 + 18 → WL E G9 cs9 2655 (LL E j u5 u6) []) : WL E G cs 1653 (LL E j v5 v6) [] := by
  obtain ⟨vs7, hx7⟩ := hJ.x7
  refine w_aload_n dLM_1653 rfl ?_
  refine wc_V (rest := []) (As := []) dLM_1654 lk_L_229 rfl (by rfl) hx7 rfl rfl (Nat.le_of_ble_eq_true rfl) (pd_due hJ) rfl (by simp) (by first | omega | (dsimp only; omega)) (by first | omega | (dsimp only; omega)) ?_ (fun X G9 h => by obtain ⟨r9, h, -⟩ := h; cases h)
  rintro o G1 ⟨r, ho, ⟨vs8, hx8⟩, dd, hdd, hC⟩
  cases ho
  refine w_aload_n dLM_1657 rfl ?_
  refine wc_V (rest := [.int r]) (As := []) dLM_1658 lk_L_232 rfl (by rfl) hx8 rfl rfl (by omega) hC rfl (by simp [Value.category]) (by first | omega | (dsimp only; omega)) (by first | omega | (dsimp only; omega)) ?_ (fun X G9 h => by obtain ⟨r9, h, -⟩ := h; cases h)
  rintro o G2 ⟨r2, ho, rfl, hJ2⟩
  cases ho
  exact w_icmp_eq (tgt := 2655) dLM_1661 (by decide) (fun _ => kN _ _ _ _ hJ2 (by first | omega | (dsimp only; omega)) (by first | omega | (dsimp only; omega))) (fun c => absurd rfl c)
theorem law_c31 {E : EV} {G : AH} {cs : Nat × Nat} {v5 v6 : Value} {j : Nat} (hL : (eX E).2.1 ≤ 3072) (hj : j + 6 ≤ (eX E).2.1) (hJ : JJ E G) (h1 : cs.1 + 3 ≤ 601024) (h2 : cs.2 + 18 ≤ 7293034) (kN : ∀ (G9 : AH) (cs9 : Nat × Nat) (u5 u6 : Value), JJ E G9 → cs9.1 ≤ cs.1 + 3 → cs9.2 ≤ cs.2 + 18 → WL E G9 cs9 2655 (LL E j u5 u6) []) : WL E G cs 1666 (LL E j v5 v6) [] := by
  obtain ⟨vs7, hx7⟩ := hJ.x7
  refine w_aload_n dLM_1666 rfl ?_
  refine w_arg (q := 1) hL hj dLM_1667 dLM_1668 dLM_1670 dLM_1671 dLM_1672 (by decide) (by decide) (by decide) ?_
  refine w_aload_n dLM_1673 rfl ?_
  refine wc_X (rest := []) (As := [.ref (eB E), .int (sc E (j + 1)), .ref (eB E + 255)]) dLM_1674 lk_L_233 rfl (by rfl) (Nat.le_of_ble_eq_true rfl) (pw_lighten (x := sc E (j + 1)) hJ) rfl (by simp) (by first | omega | (dsimp only; omega)) (by first | omega | (dsimp only; omega)) ?_ (fun X G9 h => by obtain ⟨k9, v9, -, h, -⟩ := h; cases h)
  rintro o G1 ⟨k, v, hk, ho, hov, ⟨vs8, hx8⟩, -, dd, hdd, hC⟩
  cases ho
  refine w_istore_5 dLM_1677 rfl ?_
  refine w_aload_n dLM_1679 rfl ?_
  refine w_arg (q := 1) hL hj dLM_1680 dLM_1681 dLM_1683 dLM_1684 dLM_1685 (by decide) (by decide) (by decide) ?_
  refine wc_V (rest := []) (As := [.int (sc E (j + 1))]) dLM_1686 lk_L_235 rfl (by rfl) hx8 rfl rfl (by omega) hC rfl (by simp) (by first | omega | (dsimp only; omega)) (by first | omega | (dsimp only; omega)) ?_ (fun X G9 h => by obtain ⟨r9, h, -⟩ := h; cases h)
  rintro o G2 ⟨r, ho, hr, hT, hO2⟩
  cases ho
  refine w_istore_6 dLM_1689 rfl ?_
  exact law_tail hk hr hT (fun c => by obtain ⟨ov, g1, g2⟩ := hov c; exact ⟨ov, g1, hO2.trans g2⟩) (by first | omega | (dsimp only; omega)) (by first | omega | (dsimp only; omega)) dLM_1691 dLM_1692 dLM_1695 dLM_1697 dLM_1702 dLM_1704 dLM_1707 dLM_1708 dLM_1709 dLM_1710 dLM_1712 dLM_1713 dLM_1714 dLM_1719 (by decide) (by decide) (fun G9 hJ9 => kN G9 _ _ _ hJ9 (by first | omega | (dsimp only; omega)) (by first | omega | (dsimp only; omega)))
theorem law_c32 {E : EV} {G : AH} {cs : Nat × Nat} {v5 v6 : Value} {j : Nat} (hL : (eX E).2.1 ≤ 3072) (hj : j + 6 ≤ (eX E).2.1) (hJ : JJ E G) (h1 : cs.1 + 3 ≤ 601024) (h2 : cs.2 + 18 ≤ 7293034) (kN : ∀ (G9 : AH) (cs9 : Nat × Nat) (u5 u6 : Value), JJ E G9 → cs9.1 ≤ cs.1 + 3 → cs9.2 ≤ cs.2 + 18 → WL E G9 cs9 2655 (LL E j u5 u6) []) : WL E G cs 1722 (LL E j v5 v6) [] := by
  obtain ⟨vs7, hx7⟩ := hJ.x7
  refine w_aload_n dLM_1722 rfl ?_
  refine w_arg (q := 1) hL hj dLM_1723 dLM_1724 dLM_1726 dLM_1727 dLM_1728 (by decide) (by decide) (by decide) ?_
  refine w_aload_n dLM_1729 rfl ?_
  refine wc_X (rest := []) (As := [.ref (eB E), .int (sc E (j + 1)), .ref (eB E + 255)]) dLM_1730 lk_L_236 rfl (by rfl) (Nat.le_of_ble_eq_true rfl) (pw_wearing (x := sc E (j + 1)) hJ) rfl (by simp) (by first | omega | (dsimp only; omega)) (by first | omega | (dsimp only; omega)) ?_ (fun X G9 h => by obtain ⟨k9, v9, -, h, -⟩ := h; cases h)
  rintro o G1 ⟨k, v, hk, ho, hov, ⟨vs8, hx8⟩, -, dd, hdd, hC⟩
  cases ho
  refine w_istore_5 dLM_1733 rfl ?_
  refine w_aload_n dLM_1735 rfl ?_
  refine w_arg (q := 1) hL hj dLM_1736 dLM_1737 dLM_1739 dLM_1740 dLM_1741 (by decide) (by decide) (by decide) ?_
  refine wc_V (rest := []) (As := [.int (sc E (j + 1))]) dLM_1742 lk_L_238 rfl (by rfl) hx8 rfl rfl (by omega) hC rfl (by simp) (by first | omega | (dsimp only; omega)) (by first | omega | (dsimp only; omega)) ?_ (fun X G9 h => by obtain ⟨r9, h, -⟩ := h; cases h)
  rintro o G2 ⟨r, ho, hr, hT, hO2⟩
  cases ho
  refine w_istore_6 dLM_1745 rfl ?_
  exact law_tail hk hr hT (fun c => by obtain ⟨ov, g1, g2⟩ := hov c; exact ⟨ov, g1, hO2.trans g2⟩) (by first | omega | (dsimp only; omega)) (by first | omega | (dsimp only; omega)) dLM_1747 dLM_1748 dLM_1751 dLM_1753 dLM_1758 dLM_1760 dLM_1763 dLM_1764 dLM_1765 dLM_1766 dLM_1768 dLM_1769 dLM_1770 dLM_1775 (by decide) (by decide) (fun G9 hJ9 => kN G9 _ _ _ hJ9 (by first | omega | (dsimp only; omega)) (by first | omega | (dsimp only; omega)))
theorem law_c33 {E : EV} {G : AH} {cs : Nat × Nat} {v5 v6 : Value} {j : Nat} (hL : (eX E).2.1 ≤ 3072) (hj : j + 6 ≤ (eX E).2.1) (hJ : JJ E G) (h1 : cs.1 + 3 ≤ 601024) (h2 : cs.2 + 18 ≤ 7293034) (kN : ∀ (G9 : AH) (cs9 : Nat × Nat) (u5 u6 : Value), JJ E G9 → cs9.1 ≤ cs.1 + 3 → cs9.2 ≤ cs.2 + 18 → WL E G9 cs9 2655 (LL E j u5 u6) []) : WL E G cs 1778 (LL E j v5 v6) [] := by
  obtain ⟨vs7, hx7⟩ := hJ.x7
  refine w_aload_n dLM_1778 rfl ?_
  refine w_arg (q := 1) hL hj dLM_1779 dLM_1780 dLM_1782 dLM_1783 dLM_1784 (by decide) (by decide) (by decide) ?_
  refine w_arg (q := 2) hL hj dLM_1785 dLM_1786 dLM_1788 dLM_1789 dLM_1790 (by decide) (by decide) (by decide) ?_
  refine w_aload_n dLM_1791 rfl ?_
  refine wc_X (rest := []) (As := [.ref (eB E), .int (sc E (j + 1)), .int (sc E (j + 2)), .ref (eB E + 255)]) dLM_1792 lk_L_239 rfl (by rfl) (Nat.le_of_ble_eq_true rfl) (pw_meets (x := sc E (j + 1)) (y := sc E (j + 2)) hJ) rfl (by simp) (by first | omega | (dsimp only; omega)) (by first | omega | (dsimp only; omega)) ?_ (fun X G9 h => by obtain ⟨k9, v9, -, h, -⟩ := h; cases h)
  rintro o G1 ⟨k, v, hk, ho, hov, ⟨vs8, hx8⟩, -, dd, hdd, hC⟩
  cases ho
  refine w_istore_5 dLM_1795 rfl ?_
  refine w_aload_n dLM_1797 rfl ?_
  refine w_arg (q := 1) hL hj dLM_1798 dLM_1799 dLM_1801 dLM_1802 dLM_1803 (by decide) (by decide) (by decide) ?_
  refine w_arg (q := 2) hL hj dLM_1804 dLM_1805 dLM_1807 dLM_1808 dLM_1809 (by decide) (by decide) (by decide) ?_
  refine wc_V (rest := []) (As := [.int (sc E (j + 1)), .int (sc E (j + 2))]) dLM_1810 lk_L_241 rfl (by rfl) hx8 rfl rfl (by omega) hC rfl (by simp) (by first | omega | (dsimp only; omega)) (by first | omega | (dsimp only; omega)) ?_ (fun X G9 h => by obtain ⟨r9, h, -⟩ := h; cases h)
  rintro o G2 ⟨r, ho, hr, hT, hO2⟩
  cases ho
  refine w_istore_6 dLM_1813 rfl ?_
  exact law_tail hk hr hT (fun c => by obtain ⟨ov, g1, g2⟩ := hov c; exact ⟨ov, g1, hO2.trans g2⟩) (by first | omega | (dsimp only; omega)) (by first | omega | (dsimp only; omega)) dLM_1815 dLM_1816 dLM_1819 dLM_1821 dLM_1826 dLM_1828 dLM_1831 dLM_1832 dLM_1833 dLM_1834 dLM_1836 dLM_1837 dLM_1838 dLM_1843 (by decide) (by decide) (fun G9 hJ9 => kN G9 _ _ _ hJ9 (by first | omega | (dsimp only; omega)) (by first | omega | (dsimp only; omega)))
theorem law_c34 {E : EV} {G : AH} {cs : Nat × Nat} {v5 v6 : Value} {j : Nat} (hL : (eX E).2.1 ≤ 3072) (hj : j + 6 ≤ (eX E).2.1) (hJ : JJ E G) (h1 : cs.1 + 3 ≤ 601024) (h2 : cs.2 + 18 ≤ 7293034) (kN : ∀ (G9 : AH) (cs9 : Nat × Nat) (u5 u6 : Value), JJ E G9 → cs9.1 ≤ cs.1 + 3 → cs9.2 ≤ cs.2 + 18 → WL E G9 cs9 2655 (LL E j u5 u6) []) : WL E G cs 1846 (LL E j v5 v6) [] := by
  obtain ⟨vs7, hx7⟩ := hJ.x7
  refine w_aload_n dLM_1846 rfl ?_
  refine w_arg (q := 1) hL hj dLM_1847 dLM_1848 dLM_1850 dLM_1851 dLM_1852 (by decide) (by decide) (by decide) ?_
  refine w_arg (q := 2) hL hj dLM_1853 dLM_1854 dLM_1856 dLM_1857 dLM_1858 (by decide) (by decide) (by decide) ?_
  refine w_aload_n dLM_1859 rfl ?_
  refine wc_X (rest := []) (As := [.ref (eB E), .int (sc E (j + 1)), .int (sc E (j + 2)), .ref (eB E + 255)]) dLM_1860 lk_L_242 rfl (by rfl) (Nat.le_of_ble_eq_true rfl) (pw_visits (x := sc E (j + 1)) (y := sc E (j + 2)) hJ) rfl (by simp) (by first | omega | (dsimp only; omega)) (by first | omega | (dsimp only; omega)) ?_ (fun X G9 h => by obtain ⟨k9, v9, -, h, -⟩ := h; cases h)
  rintro o G1 ⟨k, v, hk, ho, hov, ⟨vs8, hx8⟩, -, dd, hdd, hC⟩
  cases ho
  refine w_istore_5 dLM_1863 rfl ?_
  refine w_aload_n dLM_1865 rfl ?_
  refine w_arg (q := 1) hL hj dLM_1866 dLM_1867 dLM_1869 dLM_1870 dLM_1871 (by decide) (by decide) (by decide) ?_
  refine w_arg (q := 2) hL hj dLM_1872 dLM_1873 dLM_1875 dLM_1876 dLM_1877 (by decide) (by decide) (by decide) ?_
  refine wc_V (rest := []) (As := [.int (sc E (j + 1)), .int (sc E (j + 2))]) dLM_1878 lk_L_244 rfl (by rfl) hx8 rfl rfl (by omega) hC rfl (by simp) (by first | omega | (dsimp only; omega)) (by first | omega | (dsimp only; omega)) ?_ (fun X G9 h => by obtain ⟨r9, h, -⟩ := h; cases h)
  rintro o G2 ⟨r, ho, hr, hT, hO2⟩
  cases ho
  refine w_istore_6 dLM_1881 rfl ?_
  exact law_tail hk hr hT (fun c => by obtain ⟨ov, g1, g2⟩ := hov c; exact ⟨ov, g1, hO2.trans g2⟩) (by first | omega | (dsimp only; omega)) (by first | omega | (dsimp only; omega)) dLM_1883 dLM_1884 dLM_1887 dLM_1889 dLM_1894 dLM_1896 dLM_1899 dLM_1900 dLM_1901 dLM_1902 dLM_1904 dLM_1905 dLM_1906 dLM_1911 (by decide) (by decide) (fun G9 hJ9 => kN G9 _ _ _ hJ9 (by first | omega | (dsimp only; omega)) (by first | omega | (dsimp only; omega)))
theorem law_c35 {E : EV} {G : AH} {cs : Nat × Nat} {v5 v6 : Value} {j : Nat} (hL : (eX E).2.1 ≤ 3072) (hj : j + 6 ≤ (eX E).2.1) (hJ : JJ E G) (h1 : cs.1 + 3 ≤ 601024) (h2 : cs.2 + 18 ≤ 7293034) (kN : ∀ (G9 : AH) (cs9 : Nat × Nat) (u5 u6 : Value), JJ E G9 → cs9.1 ≤ cs.1 + 3 → cs9.2 ≤ cs.2 + 18 → WL E G9 cs9 2655 (LL E j u5 u6) []) : WL E G cs 1914 (LL E j v5 v6) [] := by
  obtain ⟨vs7, hx7⟩ := hJ.x7
  refine w_aload_n dLM_1914 rfl ?_
  refine w_arg (q := 1) hL hj dLM_1915 dLM_1916 dLM_1918 dLM_1919 dLM_1920 (by decide) (by decide) (by decide) ?_
  refine w_aload_n dLM_1921 rfl ?_
  refine wc_X (rest := []) (As := [.ref (eB E), .int (sc E (j + 1)), .ref (eB E + 255)]) dLM_1922 lk_L_245 rfl (by rfl) (Nat.le_of_ble_eq_true rfl) (pw_crowd (x := sc E (j + 1)) hJ) rfl (by simp) (by first | omega | (dsimp only; omega)) (by first | omega | (dsimp only; omega)) ?_ (fun X G9 h => by obtain ⟨k9, v9, -, h, -⟩ := h; cases h)
  rintro o G1 ⟨k, v, hk, ho, hov, ⟨vs8, hx8⟩, -, dd, hdd, hC⟩
  cases ho
  refine w_istore_5 dLM_1925 rfl ?_
  refine w_aload_n dLM_1927 rfl ?_
  refine w_arg (q := 1) hL hj dLM_1928 dLM_1929 dLM_1931 dLM_1932 dLM_1933 (by decide) (by decide) (by decide) ?_
  refine wc_V (rest := []) (As := [.int (sc E (j + 1))]) dLM_1934 lk_L_247 rfl (by rfl) hx8 rfl rfl (by omega) hC rfl (by simp) (by first | omega | (dsimp only; omega)) (by first | omega | (dsimp only; omega)) ?_ (fun X G9 h => by obtain ⟨r9, h, -⟩ := h; cases h)
  rintro o G2 ⟨r, ho, hr, hT, hO2⟩
  cases ho
  refine w_istore_6 dLM_1937 rfl ?_
  exact law_tail hk hr hT (fun c => by obtain ⟨ov, g1, g2⟩ := hov c; exact ⟨ov, g1, hO2.trans g2⟩) (by first | omega | (dsimp only; omega)) (by first | omega | (dsimp only; omega)) dLM_1939 dLM_1940 dLM_1943 dLM_1945 dLM_1950 dLM_1952 dLM_1955 dLM_1956 dLM_1957 dLM_1958 dLM_1960 dLM_1961 dLM_1962 dLM_1967 (by decide) (by decide) (fun G9 hJ9 => kN G9 _ _ _ hJ9 (by first | omega | (dsimp only; omega)) (by first | omega | (dsimp only; omega)))
theorem law_c36 {E : EV} {G : AH} {cs : Nat × Nat} {v5 v6 : Value} {j : Nat} (hL : (eX E).2.1 ≤ 3072) (hj : j + 6 ≤ (eX E).2.1) (hJ : JJ E G) (h1 : cs.1 + 3 ≤ 601024) (h2 : cs.2 + 18 ≤ 7293034) (kN : ∀ (G9 : AH) (cs9 : Nat × Nat) (u5 u6 : Value), JJ E G9 → cs9.1 ≤ cs.1 + 3 → cs9.2 ≤ cs.2 + 18 → WL E G9 cs9 2655 (LL E j u5 u6) []) : WL E G cs 1970 (LL E j v5 v6) [] := by
  obtain ⟨vs7, hx7⟩ := hJ.x7
  refine w_aload_n dLM_1970 rfl ?_
  refine w_arg (q := 1) hL hj dLM_1971 dLM_1972 dLM_1974 dLM_1975 dLM_1976 (by decide) (by decide) (by decide) ?_
  refine w_aload_n dLM_1977 rfl ?_
  refine wc_X (rest := []) (As := [.ref (eB E), .int (sc E (j + 1)), .ref (eB E + 255)]) dLM_1978 lk_L_248 rfl (by rfl) (Nat.le_of_ble_eq_true rfl) (pw_stays (x := sc E (j + 1)) hJ) rfl (by simp) (by first | omega | (dsimp only; omega)) (by first | omega | (dsimp only; omega)) ?_ (fun X G9 h => by obtain ⟨k9, v9, -, h, -⟩ := h; cases h)
  rintro o G1 ⟨k, v, hk, ho, hov, ⟨vs8, hx8⟩, -, dd, hdd, hC⟩
  cases ho
  refine w_istore_5 dLM_1981 rfl ?_
  refine w_aload_n dLM_1983 rfl ?_
  refine w_arg (q := 1) hL hj dLM_1984 dLM_1985 dLM_1987 dLM_1988 dLM_1989 (by decide) (by decide) (by decide) ?_
  refine wc_V (rest := []) (As := [.int (sc E (j + 1))]) dLM_1990 lk_L_250 rfl (by rfl) hx8 rfl rfl (by omega) hC rfl (by simp) (by first | omega | (dsimp only; omega)) (by first | omega | (dsimp only; omega)) ?_ (fun X G9 h => by obtain ⟨r9, h, -⟩ := h; cases h)
  rintro o G2 ⟨r, ho, hr, hT, hO2⟩
  cases ho
  refine w_istore_6 dLM_1993 rfl ?_
  exact law_tail hk hr hT (fun c => by obtain ⟨ov, g1, g2⟩ := hov c; exact ⟨ov, g1, hO2.trans g2⟩) (by first | omega | (dsimp only; omega)) (by first | omega | (dsimp only; omega)) dLM_1995 dLM_1996 dLM_1999 dLM_2001 dLM_2006 dLM_2008 dLM_2011 dLM_2012 dLM_2013 dLM_2014 dLM_2016 dLM_2017 dLM_2018 dLM_2023 (by decide) (by decide) (fun G9 hJ9 => kN G9 _ _ _ hJ9 (by first | omega | (dsimp only; omega)) (by first | omega | (dsimp only; omega)))
theorem law_c37 {E : EV} {G : AH} {cs : Nat × Nat} {v5 v6 : Value} {j : Nat} (hL : (eX E).2.1 ≤ 3072) (hj : j + 6 ≤ (eX E).2.1) (hJ : JJ E G) (h1 : cs.1 + 3 ≤ 601024) (h2 : cs.2 + 18 ≤ 7293034) (kN : ∀ (G9 : AH) (cs9 : Nat × Nat) (u5 u6 : Value), JJ E G9 → cs9.1 ≤ cs.1 + 3 → cs9.2 ≤ cs.2 + 18 → WL E G9 cs9 2655 (LL E j u5 u6) []) : WL E G cs 2026 (LL E j v5 v6) [] := by
  obtain ⟨vs7, hx7⟩ := hJ.x7
  refine w_aload_n dLM_2026 rfl ?_
  refine w_argB (q := 1) hL hj dLM_2027 dLM_2028 dLM_2030 dLM_2031 dLM_2032 dLM_2033 dLM_2036 dLM_2037 dLM_2040 (by decide) (by decide) (by decide) ?_
  refine wc_V (rest := []) (As := [.int (nI (bz E (j + 1)))]) dLM_2041 lk_L_251 rfl (by rfl) hx7 rfl rfl (Nat.le_of_ble_eq_true rfl) (pd_parted (pt := bz E (j + 1)) bz_lt hJ) rfl (by simp) (by first | omega | (dsimp only; omega)) (by first | omega | (dsimp only; omega)) ?_ (fun X G9 h => by obtain ⟨r9, h, -⟩ := h; cases h)
  rintro o G1 ⟨r, ho, ⟨vs8, hx8⟩, dd, hdd, hC⟩
  cases ho
  refine w_aload_n dLM_2044 rfl ?_
  refine w_argB (q := 1) hL hj dLM_2045 dLM_2046 dLM_2048 dLM_2049 dLM_2050 dLM_2051 dLM_2054 dLM_2055 dLM_2058 (by decide) (by decide) (by decide) ?_
  refine wc_V (rest := [.int r]) (As := [.int (nI (bz E (j + 1)))]) dLM_2059 lk_L_254 rfl (by rfl) hx8 rfl rfl (by omega) hC rfl (by simp [Value.category]) (by first | omega | (dsimp only; omega)) (by first | omega | (dsimp only; omega)) ?_ (fun X G9 h => by obtain ⟨r9, h, -⟩ := h; cases h)
  rintro o G2 ⟨r2, ho, rfl, hJ2⟩
  cases ho
  exact w_icmp_eq (tgt := 2655) dLM_2062 (by decide) (fun _ => kN _ _ _ _ hJ2 (by first | omega | (dsimp only; omega)) (by first | omega | (dsimp only; omega))) (fun c => absurd rfl c)
theorem law_c38 {E : EV} {G : AH} {cs : Nat × Nat} {v5 v6 : Value} {j : Nat} (hL : (eX E).2.1 ≤ 3072) (hj : j + 6 ≤ (eX E).2.1) (hJ : JJ E G) (h1 : cs.1 + 3 ≤ 601024) (h2 : cs.2 + 18 ≤ 7293034) (kN : ∀ (G9 : AH) (cs9 : Nat × Nat) (u5 u6 : Value), JJ E G9 → cs9.1 ≤ cs.1 + 3 → cs9.2 ≤ cs.2 + 18 → WL E G9 cs9 2655 (LL E j u5 u6) []) : WL E G cs 2067 (LL E j v5 v6) [] := by
  obtain ⟨vs7, hx7⟩ := hJ.x7
  refine w_aload_n dLM_2067 rfl ?_
  refine wc_V (rest := []) (As := []) dLM_2068 lk_L_255 rfl (by rfl) hx7 rfl rfl (Nat.le_of_ble_eq_true rfl) (pd_clash hJ) rfl (by simp) (by first | omega | (dsimp only; omega)) (by first | omega | (dsimp only; omega)) ?_ (fun X G9 h => by obtain ⟨r9, h, -⟩ := h; cases h)
  rintro o G1 ⟨r, ho, ⟨vs8, hx8⟩, dd, hdd, hC⟩
  cases ho
  refine w_aload_n dLM_2071 rfl ?_
  refine wc_V (rest := [.int r]) (As := []) dLM_2072 lk_L_258 rfl (by rfl) hx8 rfl rfl (by omega) hC rfl (by simp [Value.category]) (by first | omega | (dsimp only; omega)) (by first | omega | (dsimp only; omega)) ?_ (fun X G9 h => by obtain ⟨r9, h, -⟩ := h; cases h)
  rintro o G2 ⟨r2, ho, rfl, hJ2⟩
  cases ho
  exact w_icmp_eq (tgt := 2655) dLM_2075 (by decide) (fun _ => kN _ _ _ _ hJ2 (by first | omega | (dsimp only; omega)) (by first | omega | (dsimp only; omega))) (fun c => absurd rfl c)
theorem law_c39 {E : EV} {G : AH} {cs : Nat × Nat} {v5 v6 : Value} {j : Nat} (hL : (eX E).2.1 ≤ 3072) (hj : j + 6 ≤ (eX E).2.1) (hJ : JJ E G) (h1 : cs.1 + 3 ≤ 601024) (h2 : cs.2 + 18 ≤ 7293034) (kN : ∀ (G9 : AH) (cs9 : Nat × Nat) (u5 u6 : Value), JJ E G9 → cs9.1 ≤ cs.1 + 3 → cs9.2 ≤ cs.2 + 18 → WL E G9 cs9 2655 (LL E j u5 u6) []) : WL E G cs 2080 (LL E j v5 v6) [] := by
  obtain ⟨vs7, hx7⟩ := hJ.x7
  refine w_aload_n dLM_2080 rfl ?_
  refine wc_V (rest := []) (As := []) dLM_2081 lk_L_259 rfl (by rfl) hx7 rfl rfl (Nat.le_of_ble_eq_true rfl) (pd_full hJ) rfl (by simp) (by first | omega | (dsimp only; omega)) (by first | omega | (dsimp only; omega)) ?_ (fun X G9 h => by obtain ⟨r9, h, -⟩ := h; cases h)
  rintro o G1 ⟨r, ho, ⟨vs8, hx8⟩, dd, hdd, hC⟩
  cases ho
  refine w_aload_n dLM_2084 rfl ?_
  refine wc_V (rest := [.int r]) (As := []) dLM_2085 lk_L_262 rfl (by rfl) hx8 rfl rfl (by omega) hC rfl (by simp [Value.category]) (by first | omega | (dsimp only; omega)) (by first | omega | (dsimp only; omega)) ?_ (fun X G9 h => by obtain ⟨r9, h, -⟩ := h; cases h)
  rintro o G2 ⟨r2, ho, rfl, hJ2⟩
  cases ho
  exact w_icmp_eq (tgt := 2655) dLM_2088 (by decide) (fun _ => kN _ _ _ _ hJ2 (by first | omega | (dsimp only; omega)) (by first | omega | (dsimp only; omega))) (fun c => absurd rfl c)
theorem law_c40 {E : EV} {G : AH} {cs : Nat × Nat} {v5 v6 : Value} {j : Nat} (hL : (eX E).2.1 ≤ 3072) (hj : j + 6 ≤ (eX E).2.1) (hJ : JJ E G) (h1 : cs.1 + 3 ≤ 601024) (h2 : cs.2 + 18 ≤ 7293034) (kN : ∀ (G9 : AH) (cs9 : Nat × Nat) (u5 u6 : Value), JJ E G9 → cs9.1 ≤ cs.1 + 3 → cs9.2 ≤ cs.2 + 18 → WL E G9 cs9 2655 (LL E j u5 u6) []) : WL E G cs 2093 (LL E j v5 v6) [] := by
  obtain ⟨vs7, hx7⟩ := hJ.x7
  refine w_aload_n dLM_2093 rfl ?_
  refine wc_V (rest := []) (As := []) dLM_2094 lk_L_263 rfl (by rfl) hx7 rfl rfl (Nat.le_of_ble_eq_true rfl) (pd_settles hJ) rfl (by simp) (by first | omega | (dsimp only; omega)) (by first | omega | (dsimp only; omega)) ?_ (fun X G9 h => by obtain ⟨r9, h, -⟩ := h; cases h)
  rintro o G1 ⟨r, ho, ⟨vs8, hx8⟩, dd, hdd, hC⟩
  cases ho
  refine w_aload_n dLM_2097 rfl ?_
  refine wc_V (rest := [.int r]) (As := []) dLM_2098 lk_L_266 rfl (by rfl) hx8 rfl rfl (by omega) hC rfl (by simp [Value.category]) (by first | omega | (dsimp only; omega)) (by first | omega | (dsimp only; omega)) ?_ (fun X G9 h => by obtain ⟨r9, h, -⟩ := h; cases h)
  rintro o G2 ⟨r2, ho, rfl, hJ2⟩
  cases ho
  exact w_icmp_eq (tgt := 2655) dLM_2101 (by decide) (fun _ => kN _ _ _ _ hJ2 (by first | omega | (dsimp only; omega)) (by first | omega | (dsimp only; omega))) (fun c => absurd rfl c)
theorem law_c41 {E : EV} {G : AH} {cs : Nat × Nat} {v5 v6 : Value} {j : Nat} (hL : (eX E).2.1 ≤ 3072) (hj : j + 6 ≤ (eX E).2.1) (hJ : JJ E G) (h1 : cs.1 + 3 ≤ 601024) (h2 : cs.2 + 18 ≤ 7293034) (kN : ∀ (G9 : AH) (cs9 : Nat × Nat) (u5 u6 : Value), JJ E G9 → cs9.1 ≤ cs.1 + 3 → cs9.2 ≤ cs.2 + 18 → WL E G9 cs9 2655 (LL E j u5 u6) []) : WL E G cs 2106 (LL E j v5 v6) [] := by
  obtain ⟨vs7, hx7⟩ := hJ.x7
  refine w_aload_n dLM_2106 rfl ?_
  refine wc_V (rest := []) (As := []) dLM_2107 lk_L_267 rfl (by rfl) hx7 rfl rfl (Nat.le_of_ble_eq_true rfl) (pd_richest hJ) rfl (by simp) (by first | omega | (dsimp only; omega)) (by first | omega | (dsimp only; omega)) ?_ (fun X G9 h => by obtain ⟨r9, h, -⟩ := h; cases h)
  rintro o G1 ⟨r, ho, ⟨vs8, hx8⟩, dd, hdd, hC⟩
  cases ho
  refine w_aload_n dLM_2110 rfl ?_
  refine wc_V (rest := [.int r]) (As := []) dLM_2111 lk_L_270 rfl (by rfl) hx8 rfl rfl (by omega) hC rfl (by simp [Value.category]) (by first | omega | (dsimp only; omega)) (by first | omega | (dsimp only; omega)) ?_ (fun X G9 h => by obtain ⟨r9, h, -⟩ := h; cases h)
  rintro o G2 ⟨r2, ho, rfl, hJ2⟩
  cases ho
  exact w_icmp_eq (tgt := 2655) dLM_2114 (by decide) (fun _ => kN _ _ _ _ hJ2 (by first | omega | (dsimp only; omega)) (by first | omega | (dsimp only; omega))) (fun c => absurd rfl c)
theorem law_c42 {E : EV} {G : AH} {cs : Nat × Nat} {v5 v6 : Value} {j : Nat} (hL : (eX E).2.1 ≤ 3072) (hj : j + 6 ≤ (eX E).2.1) (hJ : JJ E G) (h1 : cs.1 + 3 ≤ 601024) (h2 : cs.2 + 18 ≤ 7293034) (kN : ∀ (G9 : AH) (cs9 : Nat × Nat) (u5 u6 : Value), JJ E G9 → cs9.1 ≤ cs.1 + 3 → cs9.2 ≤ cs.2 + 18 → WL E G9 cs9 2655 (LL E j u5 u6) []) : WL E G cs 2119 (LL E j v5 v6) [] := by
  obtain ⟨vs7, hx7⟩ := hJ.x7
  refine w_aload_n dLM_2119 rfl ?_
  refine w_argB (q := 1) hL hj dLM_2120 dLM_2121 dLM_2123 dLM_2124 dLM_2125 dLM_2126 dLM_2129 dLM_2130 dLM_2133 (by decide) (by decide) (by decide) ?_
  refine w_aload_n dLM_2134 rfl ?_
  refine wc_X (rest := []) (As := [.ref (eB E), .int (nI (bz E (j + 1))), .ref (eB E + 255)]) dLM_2135 lk_L_271 rfl (by rfl) (Nat.le_of_ble_eq_true rfl) (pw_traces (su := bz E (j + 1)) bz_lt hJ) rfl (by simp) (by first | omega | (dsimp only; omega)) (by first | omega | (dsimp only; omega)) ?_ (fun X G9 h => by obtain ⟨k9, v9, -, h, -⟩ := h; cases h)
  rintro o G1 ⟨k, v, hk, ho, hov, ⟨vs8, hx8⟩, -, dd, hdd, hC⟩
  cases ho
  refine w_istore_5 dLM_2138 rfl ?_
  refine w_aload_n dLM_2140 rfl ?_
  refine w_argB (q := 1) hL hj dLM_2141 dLM_2142 dLM_2144 dLM_2145 dLM_2146 dLM_2147 dLM_2150 dLM_2151 dLM_2154 (by decide) (by decide) (by decide) ?_
  refine wc_V (rest := []) (As := [.int (nI (bz E (j + 1)))]) dLM_2155 lk_L_274 rfl (by rfl) hx8 rfl rfl (by omega) hC rfl (by simp) (by first | omega | (dsimp only; omega)) (by first | omega | (dsimp only; omega)) ?_ (fun X G9 h => by obtain ⟨r9, h, -⟩ := h; cases h)
  rintro o G2 ⟨r, ho, hr, hT, hO2⟩
  cases ho
  refine w_istore_6 dLM_2158 rfl ?_
  exact law_tail hk hr hT (fun c => by obtain ⟨ov, g1, g2⟩ := hov c; exact ⟨ov, g1, hO2.trans g2⟩) (by first | omega | (dsimp only; omega)) (by first | omega | (dsimp only; omega)) dLM_2160 dLM_2161 dLM_2164 dLM_2166 dLM_2171 dLM_2173 dLM_2176 dLM_2177 dLM_2178 dLM_2179 dLM_2181 dLM_2182 dLM_2183 dLM_2188 (by decide) (by decide) (fun G9 hJ9 => kN G9 _ _ _ hJ9 (by first | omega | (dsimp only; omega)) (by first | omega | (dsimp only; omega)))
theorem law_c43 {E : EV} {G : AH} {cs : Nat × Nat} {v5 v6 : Value} {j : Nat} (hL : (eX E).2.1 ≤ 3072) (hj : j + 6 ≤ (eX E).2.1) (hJ : JJ E G) (h1 : cs.1 + 3 ≤ 601024) (h2 : cs.2 + 18 ≤ 7293034) (kN : ∀ (G9 : AH) (cs9 : Nat × Nat) (u5 u6 : Value), JJ E G9 → cs9.1 ≤ cs.1 + 3 → cs9.2 ≤ cs.2 + 18 → WL E G9 cs9 2655 (LL E j u5 u6) []) : WL E G cs 2191 (LL E j v5 v6) [] := by
  obtain ⟨vs7, hx7⟩ := hJ.x7
  refine w_aload_n dLM_2191 rfl ?_
  refine w_aload_n dLM_2192 rfl ?_
  refine wc_X (rest := []) (As := [.ref (eB E), .ref (eB E + 255)]) dLM_2193 lk_L_275 rfl (by rfl) (Nat.le_of_ble_eq_true rfl) (pw_look hJ) rfl (by simp) (by first | omega | (dsimp only; omega)) (by first | omega | (dsimp only; omega)) ?_ (fun X G9 h => by obtain ⟨k9, v9, -, h, -⟩ := h; cases h)
  rintro o G1 ⟨k, v, hk, ho, hov, ⟨vs8, hx8⟩, -, dd, hdd, hC⟩
  cases ho
  refine w_istore_5 dLM_2196 rfl ?_
  refine w_aload_n dLM_2198 rfl ?_
  refine wc_V (rest := []) (As := []) dLM_2199 lk_L_277 rfl (by rfl) hx8 rfl rfl (by omega) hC rfl (by simp) (by first | omega | (dsimp only; omega)) (by first | omega | (dsimp only; omega)) ?_ (fun X G9 h => by obtain ⟨r9, h, -⟩ := h; cases h)
  rintro o G2 ⟨r, ho, hr, hT, hO2⟩
  cases ho
  refine w_istore_6 dLM_2202 rfl ?_
  exact law_tail hk hr hT (fun c => by obtain ⟨ov, g1, g2⟩ := hov c; exact ⟨ov, g1, hO2.trans g2⟩) (by first | omega | (dsimp only; omega)) (by first | omega | (dsimp only; omega)) dLM_2204 dLM_2205 dLM_2208 dLM_2210 dLM_2215 dLM_2217 dLM_2220 dLM_2221 dLM_2222 dLM_2223 dLM_2225 dLM_2226 dLM_2227 dLM_2232 (by decide) (by decide) (fun G9 hJ9 => kN G9 _ _ _ hJ9 (by first | omega | (dsimp only; omega)) (by first | omega | (dsimp only; omega)))
theorem law_c44 {E : EV} {G : AH} {cs : Nat × Nat} {v5 v6 : Value} {j : Nat} (hL : (eX E).2.1 ≤ 3072) (hj : j + 6 ≤ (eX E).2.1) (hJ : JJ E G) (h1 : cs.1 + 3 ≤ 601024) (h2 : cs.2 + 18 ≤ 7293034) (kN : ∀ (G9 : AH) (cs9 : Nat × Nat) (u5 u6 : Value), JJ E G9 → cs9.1 ≤ cs.1 + 3 → cs9.2 ≤ cs.2 + 18 → WL E G9 cs9 2655 (LL E j u5 u6) []) : WL E G cs 2235 (LL E j v5 v6) [] := by
  obtain ⟨vs7, hx7⟩ := hJ.x7
  refine w_aload_n dLM_2235 rfl ?_
  refine wc_V (rest := []) (As := []) dLM_2236 lk_L_278 rfl (by rfl) hx7 rfl rfl (Nat.le_of_ble_eq_true rfl) (pd_like hJ) rfl (by simp) (by first | omega | (dsimp only; omega)) (by first | omega | (dsimp only; omega)) ?_ (fun X G9 h => by obtain ⟨r9, h, -⟩ := h; cases h)
  rintro o G1 ⟨r, ho, ⟨vs8, hx8⟩, dd, hdd, hC⟩
  cases ho
  refine w_aload_n dLM_2239 rfl ?_
  refine wc_V (rest := [.int r]) (As := []) dLM_2240 lk_L_281 rfl (by rfl) hx8 rfl rfl (by omega) hC rfl (by simp [Value.category]) (by first | omega | (dsimp only; omega)) (by first | omega | (dsimp only; omega)) ?_ (fun X G9 h => by obtain ⟨r9, h, -⟩ := h; cases h)
  rintro o G2 ⟨r2, ho, rfl, hJ2⟩
  cases ho
  exact w_icmp_eq (tgt := 2655) dLM_2243 (by decide) (fun _ => kN _ _ _ _ hJ2 (by first | omega | (dsimp only; omega)) (by first | omega | (dsimp only; omega))) (fun c => absurd rfl c)
theorem law_c45 {E : EV} {G : AH} {cs : Nat × Nat} {v5 v6 : Value} {j : Nat} (hL : (eX E).2.1 ≤ 3072) (hj : j + 6 ≤ (eX E).2.1) (hJ : JJ E G) (h1 : cs.1 + 3 ≤ 601024) (h2 : cs.2 + 18 ≤ 7293034) (kN : ∀ (G9 : AH) (cs9 : Nat × Nat) (u5 u6 : Value), JJ E G9 → cs9.1 ≤ cs.1 + 3 → cs9.2 ≤ cs.2 + 18 → WL E G9 cs9 2655 (LL E j u5 u6) []) : WL E G cs 2248 (LL E j v5 v6) [] := by
  obtain ⟨vs7, hx7⟩ := hJ.x7
  refine w_aload_n dLM_2248 rfl ?_
  refine w_arg (q := 1) hL hj dLM_2249 dLM_2250 dLM_2252 dLM_2253 dLM_2254 (by decide) (by decide) (by decide) ?_
  refine w_argB (q := 2) hL hj dLM_2255 dLM_2256 dLM_2258 dLM_2259 dLM_2260 dLM_2261 dLM_2264 dLM_2265 dLM_2268 (by decide) (by decide) (by decide) ?_
  refine w_aload_n dLM_2269 rfl ?_
  refine wc_X (rest := []) (As := [.ref (eB E), .int (sc E (j + 1)), .int (nI (bz E (j + 2))), .ref (eB E + 255)]) dLM_2270 lk_L_282 rfl (by rfl) (Nat.le_of_ble_eq_true rfl) (pw_trial (x := sc E (j + 1)) (ow := bz E (j + 2)) bz_lt hJ) rfl (by simp) (by first | omega | (dsimp only; omega)) (by first | omega | (dsimp only; omega)) ?_ (fun X G9 h => by obtain ⟨k9, v9, -, h, -⟩ := h; cases h)
  rintro o G1 ⟨k, v, hk, ho, hov, ⟨vs8, hx8⟩, -, dd, hdd, hC⟩
  cases ho
  refine w_istore_5 dLM_2273 rfl ?_
  refine w_aload_n dLM_2275 rfl ?_
  refine w_arg (q := 1) hL hj dLM_2276 dLM_2277 dLM_2279 dLM_2280 dLM_2281 (by decide) (by decide) (by decide) ?_
  refine w_argB (q := 2) hL hj dLM_2282 dLM_2283 dLM_2285 dLM_2286 dLM_2287 dLM_2288 dLM_2291 dLM_2292 dLM_2295 (by decide) (by decide) (by decide) ?_
  refine wc_V (rest := []) (As := [.int (sc E (j + 1)), .int (nI (bz E (j + 2)))]) dLM_2296 lk_L_284 rfl (by rfl) hx8 rfl rfl (by omega) hC rfl (by simp) (by first | omega | (dsimp only; omega)) (by first | omega | (dsimp only; omega)) ?_ (fun X G9 h => by obtain ⟨r9, h, -⟩ := h; cases h)
  rintro o G2 ⟨r, ho, hr, hT, hO2⟩
  cases ho
  refine w_istore_6 dLM_2299 rfl ?_
  exact law_tail hk hr hT (fun c => by obtain ⟨ov, g1, g2⟩ := hov c; exact ⟨ov, g1, hO2.trans g2⟩) (by first | omega | (dsimp only; omega)) (by first | omega | (dsimp only; omega)) dLM_2301 dLM_2302 dLM_2305 dLM_2307 dLM_2312 dLM_2314 dLM_2317 dLM_2318 dLM_2319 dLM_2320 dLM_2322 dLM_2323 dLM_2324 dLM_2329 (by decide) (by decide) (fun G9 hJ9 => kN G9 _ _ _ hJ9 (by first | omega | (dsimp only; omega)) (by first | omega | (dsimp only; omega)))
theorem law_c46 {E : EV} {G : AH} {cs : Nat × Nat} {v5 v6 : Value} {j : Nat} (hL : (eX E).2.1 ≤ 3072) (hj : j + 6 ≤ (eX E).2.1) (hJ : JJ E G) (h1 : cs.1 + 3 ≤ 601024) (h2 : cs.2 + 18 ≤ 7293034) (kN : ∀ (G9 : AH) (cs9 : Nat × Nat) (u5 u6 : Value), JJ E G9 → cs9.1 ≤ cs.1 + 3 → cs9.2 ≤ cs.2 + 18 → WL E G9 cs9 2655 (LL E j u5 u6) []) : WL E G cs 2332 (LL E j v5 v6) [] := by
  obtain ⟨vs7, hx7⟩ := hJ.x7
  refine w_aload_n dLM_2332 rfl ?_
  refine w_arg (q := 1) hL hj dLM_2333 dLM_2334 dLM_2336 dLM_2337 dLM_2338 (by decide) (by decide) (by decide) ?_
  refine w_argB (q := 2) hL hj dLM_2339 dLM_2340 dLM_2342 dLM_2343 dLM_2344 dLM_2345 dLM_2348 dLM_2349 dLM_2352 (by decide) (by decide) (by decide) ?_
  refine w_aload_n dLM_2353 rfl ?_
  refine wc_X (rest := []) (As := [.ref (eB E), .int (sc E (j + 1)), .int (nI (bz E (j + 2))), .ref (eB E + 255)]) dLM_2354 lk_L_285 rfl (by rfl) (Nat.le_of_ble_eq_true rfl) (pw_span (x := sc E (j + 1)) (mo := bz E (j + 2)) bz_lt hJ) rfl (by simp) (by first | omega | (dsimp only; omega)) (by first | omega | (dsimp only; omega)) ?_ (fun X G9 h => by obtain ⟨k9, v9, -, h, -⟩ := h; cases h)
  rintro o G1 ⟨k, v, hk, ho, hov, ⟨vs8, hx8⟩, -, dd, hdd, hC⟩
  cases ho
  refine w_istore_5 dLM_2357 rfl ?_
  refine w_aload_n dLM_2359 rfl ?_
  refine w_arg (q := 1) hL hj dLM_2360 dLM_2361 dLM_2363 dLM_2364 dLM_2365 (by decide) (by decide) (by decide) ?_
  refine w_argB (q := 2) hL hj dLM_2366 dLM_2367 dLM_2369 dLM_2370 dLM_2371 dLM_2372 dLM_2375 dLM_2376 dLM_2379 (by decide) (by decide) (by decide) ?_
  refine wc_V (rest := []) (As := [.int (sc E (j + 1)), .int (nI (bz E (j + 2)))]) dLM_2380 lk_L_287 rfl (by rfl) hx8 rfl rfl (by omega) hC rfl (by simp) (by first | omega | (dsimp only; omega)) (by first | omega | (dsimp only; omega)) ?_ (fun X G9 h => by obtain ⟨r9, h, -⟩ := h; cases h)
  rintro o G2 ⟨r, ho, hr, hT, hO2⟩
  cases ho
  refine w_istore_6 dLM_2383 rfl ?_
  exact law_tail hk hr hT (fun c => by obtain ⟨ov, g1, g2⟩ := hov c; exact ⟨ov, g1, hO2.trans g2⟩) (by first | omega | (dsimp only; omega)) (by first | omega | (dsimp only; omega)) dLM_2385 dLM_2386 dLM_2389 dLM_2391 dLM_2396 dLM_2398 dLM_2401 dLM_2402 dLM_2403 dLM_2404 dLM_2406 dLM_2407 dLM_2408 dLM_2413 (by decide) (by decide) (fun G9 hJ9 => kN G9 _ _ _ hJ9 (by first | omega | (dsimp only; omega)) (by first | omega | (dsimp only; omega)))
theorem law_c47 {E : EV} {G : AH} {cs : Nat × Nat} {v5 v6 : Value} {j : Nat} (hL : (eX E).2.1 ≤ 3072) (hj : j + 6 ≤ (eX E).2.1) (hJ : JJ E G) (h1 : cs.1 + 3 ≤ 601024) (h2 : cs.2 + 18 ≤ 7293034) (kN : ∀ (G9 : AH) (cs9 : Nat × Nat) (u5 u6 : Value), JJ E G9 → cs9.1 ≤ cs.1 + 3 → cs9.2 ≤ cs.2 + 18 → WL E G9 cs9 2655 (LL E j u5 u6) []) : WL E G cs 2416 (LL E j v5 v6) [] := by
  obtain ⟨vs7, hx7⟩ := hJ.x7
  refine w_aload_n dLM_2416 rfl ?_
  refine w_arg (q := 1) hL hj dLM_2417 dLM_2418 dLM_2420 dLM_2421 dLM_2422 (by decide) (by decide) (by decide) ?_
  refine w_argB (q := 2) hL hj dLM_2423 dLM_2424 dLM_2426 dLM_2427 dLM_2428 dLM_2429 dLM_2432 dLM_2433 dLM_2436 (by decide) (by decide) (by decide) ?_
  refine w_aload_n dLM_2437 rfl ?_
  refine wc_X (rest := []) (As := [.ref (eB E), .int (sc E (j + 1)), .int (nI (bz E (j + 2))), .ref (eB E + 255)]) dLM_2438 lk_L_288 rfl (by rfl) (Nat.le_of_ble_eq_true rfl) (pw_led (x := sc E (j + 1)) (ow := bz E (j + 2)) bz_lt hJ) rfl (by simp) (by first | omega | (dsimp only; omega)) (by first | omega | (dsimp only; omega)) ?_ (fun X G9 h => by obtain ⟨k9, v9, -, h, -⟩ := h; cases h)
  rintro o G1 ⟨k, v, hk, ho, hov, ⟨vs8, hx8⟩, -, dd, hdd, hC⟩
  cases ho
  refine w_istore_5 dLM_2441 rfl ?_
  refine w_aload_n dLM_2443 rfl ?_
  refine w_arg (q := 1) hL hj dLM_2444 dLM_2445 dLM_2447 dLM_2448 dLM_2449 (by decide) (by decide) (by decide) ?_
  refine w_argB (q := 2) hL hj dLM_2450 dLM_2451 dLM_2453 dLM_2454 dLM_2455 dLM_2456 dLM_2459 dLM_2460 dLM_2463 (by decide) (by decide) (by decide) ?_
  refine wc_V (rest := []) (As := [.int (sc E (j + 1)), .int (nI (bz E (j + 2)))]) dLM_2464 lk_L_290 rfl (by rfl) hx8 rfl rfl (by omega) hC rfl (by simp) (by first | omega | (dsimp only; omega)) (by first | omega | (dsimp only; omega)) ?_ (fun X G9 h => by obtain ⟨r9, h, -⟩ := h; cases h)
  rintro o G2 ⟨r, ho, hr, hT, hO2⟩
  cases ho
  refine w_istore_6 dLM_2467 rfl ?_
  exact law_tail hk hr hT (fun c => by obtain ⟨ov, g1, g2⟩ := hov c; exact ⟨ov, g1, hO2.trans g2⟩) (by first | omega | (dsimp only; omega)) (by first | omega | (dsimp only; omega)) dLM_2469 dLM_2470 dLM_2473 dLM_2475 dLM_2480 dLM_2482 dLM_2485 dLM_2486 dLM_2487 dLM_2488 dLM_2490 dLM_2491 dLM_2492 dLM_2497 (by decide) (by decide) (fun G9 hJ9 => kN G9 _ _ _ hJ9 (by first | omega | (dsimp only; omega)) (by first | omega | (dsimp only; omega)))
theorem law_c48 {E : EV} {G : AH} {cs : Nat × Nat} {v5 v6 : Value} {j : Nat} (hL : (eX E).2.1 ≤ 3072) (hj : j + 6 ≤ (eX E).2.1) (hJ : JJ E G) (h1 : cs.1 + 3 ≤ 601024) (h2 : cs.2 + 18 ≤ 7293034) (kN : ∀ (G9 : AH) (cs9 : Nat × Nat) (u5 u6 : Value), JJ E G9 → cs9.1 ≤ cs.1 + 3 → cs9.2 ≤ cs.2 + 18 → WL E G9 cs9 2655 (LL E j u5 u6) []) : WL E G cs 2500 (LL E j v5 v6) [] := by
  obtain ⟨vs7, hx7⟩ := hJ.x7
  refine w_aload_n dLM_2500 rfl ?_
  refine w_arg (q := 1) hL hj dLM_2501 dLM_2502 dLM_2504 dLM_2505 dLM_2506 (by decide) (by decide) (by decide) ?_
  refine w_arg (q := 2) hL hj dLM_2507 dLM_2508 dLM_2510 dLM_2511 dLM_2512 (by decide) (by decide) (by decide) ?_
  refine w_aload_n dLM_2513 rfl ?_
  refine wc_X (rest := []) (As := [.ref (eB E), .int (sc E (j + 1)), .int (sc E (j + 2)), .ref (eB E + 255)]) dLM_2514 lk_L_291 rfl (by rfl) (Nat.le_of_ble_eq_true rfl) (pw_log (x := sc E (j + 1)) (w := sc E (j + 2)) hJ) rfl (by simp) (by first | omega | (dsimp only; omega)) (by first | omega | (dsimp only; omega)) ?_ (fun X G9 h => by obtain ⟨k9, v9, -, h, -⟩ := h; cases h)
  rintro o G1 ⟨k, v, hk, ho, hov, ⟨vs8, hx8⟩, -, dd, hdd, hC⟩
  cases ho
  refine w_istore_5 dLM_2517 rfl ?_
  refine w_aload_n dLM_2519 rfl ?_
  refine w_arg (q := 1) hL hj dLM_2520 dLM_2521 dLM_2523 dLM_2524 dLM_2525 (by decide) (by decide) (by decide) ?_
  refine w_arg (q := 2) hL hj dLM_2526 dLM_2527 dLM_2529 dLM_2530 dLM_2531 (by decide) (by decide) (by decide) ?_
  refine wc_V (rest := []) (As := [.int (sc E (j + 1)), .int (sc E (j + 2))]) dLM_2532 lk_L_293 rfl (by rfl) hx8 rfl rfl (by omega) hC rfl (by simp) (by first | omega | (dsimp only; omega)) (by first | omega | (dsimp only; omega)) ?_ (fun X G9 h => by obtain ⟨r9, h, -⟩ := h; cases h)
  rintro o G2 ⟨r, ho, hr, hT, hO2⟩
  cases ho
  refine w_istore_6 dLM_2535 rfl ?_
  exact law_tail hk hr hT (fun c => by obtain ⟨ov, g1, g2⟩ := hov c; exact ⟨ov, g1, hO2.trans g2⟩) (by first | omega | (dsimp only; omega)) (by first | omega | (dsimp only; omega)) dLM_2537 dLM_2538 dLM_2541 dLM_2543 dLM_2548 dLM_2550 dLM_2553 dLM_2554 dLM_2555 dLM_2556 dLM_2558 dLM_2559 dLM_2560 dLM_2565 (by decide) (by decide) (fun G9 hJ9 => kN G9 _ _ _ hJ9 (by first | omega | (dsimp only; omega)) (by first | omega | (dsimp only; omega)))
theorem law_c49 {E : EV} {G : AH} {cs : Nat × Nat} {v5 v6 : Value} {j : Nat} (hL : (eX E).2.1 ≤ 3072) (hj : j + 6 ≤ (eX E).2.1) (hJ : JJ E G) (h1 : cs.1 + 3 ≤ 601024) (h2 : cs.2 + 18 ≤ 7293034) (kN : ∀ (G9 : AH) (cs9 : Nat × Nat) (u5 u6 : Value), JJ E G9 → cs9.1 ≤ cs.1 + 3 → cs9.2 ≤ cs.2 + 18 → WL E G9 cs9 2655 (LL E j u5 u6) []) : WL E G cs 2568 (LL E j v5 v6) [] := by
  obtain ⟨vs7, hx7⟩ := hJ.x7
  refine w_aload_n dLM_2568 rfl ?_
  refine w_arg (q := 1) hL hj dLM_2569 dLM_2570 dLM_2572 dLM_2573 dLM_2574 (by decide) (by decide) (by decide) ?_
  refine wc_V (rest := []) (As := [.int (sc E (j + 1))]) dLM_2575 lk_L_294 rfl (by rfl) hx7 rfl rfl (Nat.le_of_ble_eq_true rfl) (pd_seed (x := sc E (j + 1)) hJ) rfl (by simp) (by first | omega | (dsimp only; omega)) (by first | omega | (dsimp only; omega)) ?_ (fun X G9 h => by obtain ⟨r9, h, -⟩ := h; cases h)
  rintro o G1 ⟨r, ho, ⟨vs8, hx8⟩, dd, hdd, hC⟩
  cases ho
  refine w_aload_n dLM_2578 rfl ?_
  refine w_arg (q := 1) hL hj dLM_2579 dLM_2580 dLM_2582 dLM_2583 dLM_2584 (by decide) (by decide) (by decide) ?_
  refine wc_V (rest := [.int r]) (As := [.int (sc E (j + 1))]) dLM_2585 lk_L_297 rfl (by rfl) hx8 rfl rfl (by omega) hC rfl (by simp [Value.category]) (by first | omega | (dsimp only; omega)) (by first | omega | (dsimp only; omega)) ?_ (fun X G9 h => by obtain ⟨r9, h, -⟩ := h; cases h)
  rintro o G2 ⟨r2, ho, rfl, hJ2⟩
  cases ho
  exact w_icmp_eq (tgt := 2655) dLM_2588 (by decide) (fun _ => kN _ _ _ _ hJ2 (by first | omega | (dsimp only; omega)) (by first | omega | (dsimp only; omega))) (fun c => absurd rfl c)
theorem law_c50 {E : EV} {G : AH} {cs : Nat × Nat} {v5 v6 : Value} {j : Nat} (hL : (eX E).2.1 ≤ 3072) (hj : j + 6 ≤ (eX E).2.1) (hJ : JJ E G) (h1 : cs.1 + 3 ≤ 601024) (h2 : cs.2 + 18 ≤ 7293034) (kN : ∀ (G9 : AH) (cs9 : Nat × Nat) (u5 u6 : Value), JJ E G9 → cs9.1 ≤ cs.1 + 3 → cs9.2 ≤ cs.2 + 18 → WL E G9 cs9 2655 (LL E j u5 u6) []) : WL E G cs 2593 (LL E j v5 v6) [] := by
  obtain ⟨vs7, hx7⟩ := hJ.x7
  refine w_aload_n dLM_2593 rfl ?_
  refine wc_V (rest := []) (As := []) dLM_2594 lk_L_298 rfl (by rfl) hx7 rfl rfl (Nat.le_of_ble_eq_true rfl) (pd_undo hJ) rfl (by simp) (by first | omega | (dsimp only; omega)) (by first | omega | (dsimp only; omega)) ?_ (fun X G9 h => by obtain ⟨r9, h, -⟩ := h; cases h)
  rintro o G1 ⟨r, ho, ⟨vs8, hx8⟩, dd, hdd, hC⟩
  cases ho
  refine w_aload_n dLM_2597 rfl ?_
  refine wc_V (rest := [.int r]) (As := []) dLM_2598 lk_L_302 rfl (by rfl) hx8 rfl rfl (by omega) hC rfl (by simp [Value.category]) (by first | omega | (dsimp only; omega)) (by first | omega | (dsimp only; omega)) ?_ (fun X G9 h => by obtain ⟨r9, h, -⟩ := h; cases h)
  rintro o G2 ⟨r2, ho, rfl, hJ2⟩
  cases ho
  exact w_icmp_eq (tgt := 2655) dLM_2601 (by decide) (fun _ => kN _ _ _ _ hJ2 (by first | omega | (dsimp only; omega)) (by first | omega | (dsimp only; omega))) (fun c => absurd rfl c)
theorem law_c51 {E : EV} {G : AH} {cs : Nat × Nat} {v5 v6 : Value} {j : Nat} (hL : (eX E).2.1 ≤ 3072) (hj : j + 6 ≤ (eX E).2.1) (hJ : JJ E G) (h1 : cs.1 + 3 ≤ 601024) (h2 : cs.2 + 18 ≤ 7293034) (kN : ∀ (G9 : AH) (cs9 : Nat × Nat) (u5 u6 : Value), JJ E G9 → cs9.1 ≤ cs.1 + 3 → cs9.2 ≤ cs.2 + 18 → WL E G9 cs9 2655 (LL E j u5 u6) []) : WL E G cs 2606 (LL E j v5 v6) [] := by
  obtain ⟨vs7, hx7⟩ := hJ.x7
  refine w_aload_n dLM_2606 rfl ?_
  refine wc_V (rest := []) (As := []) dLM_2607 lk_L_303 rfl (by rfl) hx7 rfl rfl (Nat.le_of_ble_eq_true rfl) (pd_image hJ) rfl (by simp) (by first | omega | (dsimp only; omega)) (by first | omega | (dsimp only; omega)) ?_ (fun X G9 h => by cases h.1)
  rintro o G1 ⟨ho, ⟨vs8, hx8⟩, dd, hdd, hC⟩
  cases ho
  refine w_aload_n dLM_2610 rfl ?_
  refine wc_V (rest := []) (As := []) dLM_2611 lk_L_306 rfl (by rfl) hx8 rfl rfl (by omega) hC rfl (by simp) (by first | omega | (dsimp only; omega)) (by first | omega | (dsimp only; omega)) ?_ (fun X G9 h => by cases h.1)
  rintro o G2 ⟨ho, hJ2⟩
  cases ho
  exact w_goto (tgt := 2655) dLM_2614 (by decide) (kN _ _ _ _ hJ2 (by first | omega | (dsimp only; omega)) (by first | omega | (dsimp only; omega)))
theorem law_c52 {E : EV} {G : AH} {cs : Nat × Nat} {v5 v6 : Value} {j : Nat} (hL : (eX E).2.1 ≤ 3072) (hj : j + 6 ≤ (eX E).2.1) (hJ : JJ E G) (h1 : cs.1 + 3 ≤ 601024) (h2 : cs.2 + 18 ≤ 7293034) (kN : ∀ (G9 : AH) (cs9 : Nat × Nat) (u5 u6 : Value), JJ E G9 → cs9.1 ≤ cs.1 + 3 → cs9.2 ≤ cs.2 + 18 → WL E G9 cs9 2655 (LL E j u5 u6) []) : WL E G cs 2617 (LL E j v5 v6) [] := by
  obtain ⟨vs7, hx7⟩ := hJ.x7
  refine w_aload_n dLM_2617 rfl ?_
  refine wc_V (rest := []) (As := []) dLM_2618 lk_L_307 rfl (by rfl) hx7 rfl rfl (Nat.le_of_ble_eq_true rfl) (pd_back hJ) rfl (by simp) (by first | omega | (dsimp only; omega)) (by first | omega | (dsimp only; omega)) ?_ (fun X G9 h => by obtain ⟨r9, h, -⟩ := h; cases h)
  rintro o G1 ⟨r, ho, ⟨vs8, hx8⟩, dd, hdd, hC⟩
  cases ho
  refine w_aload_n dLM_2621 rfl ?_
  refine wc_V (rest := [.int r]) (As := []) dLM_2622 lk_L_310 rfl (by rfl) hx8 rfl rfl (by omega) hC rfl (by simp [Value.category]) (by first | omega | (dsimp only; omega)) (by first | omega | (dsimp only; omega)) ?_ (fun X G9 h => by obtain ⟨r9, h, -⟩ := h; cases h)
  rintro o G2 ⟨r2, ho, rfl, hJ2⟩
  cases ho
  exact w_icmp_eq (tgt := 2655) dLM_2625 (by decide) (fun _ => kN _ _ _ _ hJ2 (by first | omega | (dsimp only; omega)) (by first | omega | (dsimp only; omega))) (fun c => absurd rfl c)
theorem law_c53 {E : EV} {G : AH} {cs : Nat × Nat} {v5 v6 : Value} {j : Nat} (hL : (eX E).2.1 ≤ 3072) (hj : j + 6 ≤ (eX E).2.1) (hJ : JJ E G) (h1 : cs.1 + 3 ≤ 601024) (h2 : cs.2 + 18 ≤ 7293034) (kN : ∀ (G9 : AH) (cs9 : Nat × Nat) (u5 u6 : Value), JJ E G9 → cs9.1 ≤ cs.1 + 3 → cs9.2 ≤ cs.2 + 18 → WL E G9 cs9 2655 (LL E j u5 u6) []) : WL E G cs 2630 (LL E j v5 v6) [] := by
  obtain ⟨vs7, hx7⟩ := hJ.x7
  refine w_aload_n dLM_2630 rfl ?_
  refine w_arg (q := 1) hL hj dLM_2631 dLM_2632 dLM_2634 dLM_2635 dLM_2636 (by decide) (by decide) (by decide) ?_
  refine wc_V (rest := []) (As := [.int (sc E (j + 1))]) dLM_2637 lk_L_311 rfl (by rfl) hx7 rfl rfl (Nat.le_of_ble_eq_true rfl) (pd_count (w := sc E (j + 1)) hJ) rfl (by simp) (by first | omega | (dsimp only; omega)) (by first | omega | (dsimp only; omega)) ?_ (fun X G9 h => by obtain ⟨r9, h, -⟩ := h; cases h)
  rintro o G1 ⟨r, ho, ⟨vs8, hx8⟩, dd, hdd, hC⟩
  cases ho
  refine w_aload_n dLM_2640 rfl ?_
  refine w_arg (q := 1) hL hj dLM_2641 dLM_2642 dLM_2644 dLM_2645 dLM_2646 (by decide) (by decide) (by decide) ?_
  refine wc_V (rest := [.int r]) (As := [.int (sc E (j + 1))]) dLM_2647 lk_L_314 rfl (by rfl) hx8 rfl rfl (by omega) hC rfl (by simp [Value.category]) (by first | omega | (dsimp only; omega)) (by first | omega | (dsimp only; omega)) ?_ (fun X G9 h => by obtain ⟨r9, h, -⟩ := h; cases h)
  rintro o G2 ⟨r2, ho, rfl, hJ2⟩
  cases ho
  exact w_icmp_eq (tgt := 2655) dLM_2650 (by decide) (fun _ => kN _ _ _ _ hJ2 (by first | omega | (dsimp only; omega)) (by first | omega | (dsimp only; omega))) (fun c => absurd rfl c)
