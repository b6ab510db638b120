/-! the law's own body, read -/
abbrev KL : MR := (x, code, maxLocals, ret, [])
theorem dLM_0 : decode code 0 = .ok (.new 8, 3) := by decide +kernel
theorem dLM_3 : decode code 3 = .ok (.dup, 1) := by decide +kernel
theorem dLM_4 : decode code 4 = .ok (.invokespecial 110, 3) := by decide +kernel
theorem dLM_7 : decode code 7 = .ok (.astore_n 1, 1) := by decide +kernel
theorem dLM_8 : decode code 8 = .ok (.new 111, 3) := by decide +kernel
theorem dLM_11 : decode code 11 = .ok (.dup, 1) := by decide +kernel
theorem dLM_12 : decode code 12 = .ok (.invokespecial 113, 3) := by decide +kernel
theorem dLM_15 : decode code 15 = .ok (.astore_n 2, 1) := by decide +kernel
theorem dLM_16 : decode code 16 = .ok (.iconst 1, 1) := by decide +kernel
theorem dLM_17 : decode code 17 = .ok (.newarray .long, 2) := by decide +kernel
theorem dLM_19 : decode code 19 = .ok (.astore_n 3, 1) := by decide +kernel
theorem dLM_20 : decode code 20 = .ok (.iconst 0, 1) := by decide +kernel
theorem dLM_21 : decode code 21 = .ok (.istore 4, 2) := by decide +kernel
theorem dLM_23 : decode code 23 = .ok (.iload 4, 2) := by decide +kernel
theorem dLM_25 : decode code 25 = .ok (.aload_n 0, 1) := by decide +kernel
theorem dLM_26 : decode code 26 = .ok (.arraylength, 1) := by decide +kernel
theorem dLM_27 : decode code 27 = .ok (.bipush 6, 2) := by decide +kernel
theorem dLM_29 : decode code 29 = .ok (.isub, 1) := by decide +kernel
theorem dLM_30 : decode code 30 = .ok (.if_icmp .gt 2631, 3) := by decide +kernel
theorem dLM_33 : decode code 33 = .ok (.aload_n 0, 1) := by decide +kernel
theorem dLM_34 : decode code 34 = .ok (.iload 4, 2) := by decide +kernel
theorem dLM_36 : decode code 36 = .ok (.iaload, 1) := by decide +kernel
theorem dLM_37 : decode code 37 = .ok (.bipush 63, 2) := by decide +kernel
theorem dLM_39 : decode code 39 = .ok (.iand, 1) := by decide +kernel
theorem dLM_40 : decode code 40 = .ok (.tableswitch 2615 0 53 #[232, 305, 330, 374, 418, 431, 499, 567, 635, 703, 771, 839, 895, 951, 1019, 1032, 1088, 1168, 1181, 1194, 1207, 1220, 1261, 1274, 1330, 1414, 1439, 1452, 1520, 1600, 1613, 1626, 1682, 1738, 1806, 1874, 1930, 1986, 2027, 2040, 2053, 2066, 2079, 2151, 2195, 2208, 2292, 2376, 2460, 2528, 2553, 2566, 2577, 2590], 232) := by decide +kernel
theorem dLM_272 : decode code 272 = .ok (.aload_n 1, 1) := by decide +kernel
theorem dLM_273 : decode code 273 = .ok (.aload_n 0, 1) := by decide +kernel
theorem dLM_274 : decode code 274 = .ok (.iload 4, 2) := by decide +kernel
theorem dLM_276 : decode code 276 = .ok (.iconst 1, 1) := by decide +kernel
theorem dLM_277 : decode code 277 = .ok (.iadd, 1) := by decide +kernel
theorem dLM_278 : decode code 278 = .ok (.iaload, 1) := by decide +kernel
theorem dLM_279 : decode code 279 = .ok (.aload_n 0, 1) := by decide +kernel
theorem dLM_280 : decode code 280 = .ok (.iload 4, 2) := by decide +kernel
theorem dLM_282 : decode code 282 = .ok (.iconst 2, 1) := by decide +kernel
theorem dLM_283 : decode code 283 = .ok (.iadd, 1) := by decide +kernel
theorem dLM_284 : decode code 284 = .ok (.iaload, 1) := by decide +kernel
theorem dLM_285 : decode code 285 = .ok (.aload_n 0, 1) := by decide +kernel
theorem dLM_286 : decode code 286 = .ok (.iload 4, 2) := by decide +kernel
theorem dLM_288 : decode code 288 = .ok (.iconst 3, 1) := by decide +kernel
theorem dLM_289 : decode code 289 = .ok (.iadd, 1) := by decide +kernel
theorem dLM_290 : decode code 290 = .ok (.iaload, 1) := by decide +kernel
theorem dLM_291 : decode code 291 = .ok (.aload_n 0, 1) := by decide +kernel
theorem dLM_292 : decode code 292 = .ok (.iload 4, 2) := by decide +kernel
theorem dLM_294 : decode code 294 = .ok (.iconst 4, 1) := by decide +kernel
theorem dLM_295 : decode code 295 = .ok (.iadd, 1) := by decide +kernel
theorem dLM_296 : decode code 296 = .ok (.iaload, 1) := by decide +kernel
theorem dLM_297 : decode code 297 = .ok (.aload_n 0, 1) := by decide +kernel
theorem dLM_298 : decode code 298 = .ok (.iload 4, 2) := by decide +kernel
theorem dLM_300 : decode code 300 = .ok (.iconst 5, 1) := by decide +kernel
theorem dLM_301 : decode code 301 = .ok (.iadd, 1) := by decide +kernel
theorem dLM_302 : decode code 302 = .ok (.iaload, 1) := by decide +kernel
theorem dLM_303 : decode code 303 = .ok (.invokevirtual 114, 3) := by decide +kernel
theorem dLM_306 : decode code 306 = .ok (.aload_n 2, 1) := by decide +kernel
theorem dLM_307 : decode code 307 = .ok (.aload_n 0, 1) := by decide +kernel
theorem dLM_308 : decode code 308 = .ok (.iload 4, 2) := by decide +kernel
theorem dLM_310 : decode code 310 = .ok (.iconst 1, 1) := by decide +kernel
theorem dLM_311 : decode code 311 = .ok (.iadd, 1) := by decide +kernel
theorem dLM_312 : decode code 312 = .ok (.iaload, 1) := by decide +kernel
theorem dLM_313 : decode code 313 = .ok (.aload_n 0, 1) := by decide +kernel
theorem dLM_314 : decode code 314 = .ok (.iload 4, 2) := by decide +kernel
theorem dLM_316 : decode code 316 = .ok (.iconst 2, 1) := by decide +kernel
theorem dLM_317 : decode code 317 = .ok (.iadd, 1) := by decide +kernel
theorem dLM_318 : decode code 318 = .ok (.iaload, 1) := by decide +kernel
theorem dLM_319 : decode code 319 = .ok (.aload_n 0, 1) := by decide +kernel
theorem dLM_320 : decode code 320 = .ok (.iload 4, 2) := by decide +kernel
theorem dLM_322 : decode code 322 = .ok (.iconst 3, 1) := by decide +kernel
theorem dLM_323 : decode code 323 = .ok (.iadd, 1) := by decide +kernel
theorem dLM_324 : decode code 324 = .ok (.iaload, 1) := by decide +kernel
theorem dLM_325 : decode code 325 = .ok (.aload_n 0, 1) := by decide +kernel
theorem dLM_326 : decode code 326 = .ok (.iload 4, 2) := by decide +kernel
theorem dLM_328 : decode code 328 = .ok (.iconst 4, 1) := by decide +kernel
theorem dLM_329 : decode code 329 = .ok (.iadd, 1) := by decide +kernel
theorem dLM_330 : decode code 330 = .ok (.iaload, 1) := by decide +kernel
theorem dLM_331 : decode code 331 = .ok (.aload_n 0, 1) := by decide +kernel
theorem dLM_332 : decode code 332 = .ok (.iload 4, 2) := by decide +kernel
theorem dLM_334 : decode code 334 = .ok (.iconst 5, 1) := by decide +kernel
theorem dLM_335 : decode code 335 = .ok (.iadd, 1) := by decide +kernel
theorem dLM_336 : decode code 336 = .ok (.iaload, 1) := by decide +kernel
theorem dLM_337 : decode code 337 = .ok (.invokevirtual 118, 3) := by decide +kernel
theorem dLM_340 : decode code 340 = .ok (.if_icmp .eq 2315, 3) := by decide +kernel
theorem dLM_343 : decode code 343 = .ok (.iconst 0, 1) := by decide +kernel
theorem dLM_344 : decode code 344 = .ok (.ireturn, 1) := by decide +kernel
theorem dLM_345 : decode code 345 = .ok (.aload_n 1, 1) := by decide +kernel
theorem dLM_346 : decode code 346 = .ok (.aload_n 0, 1) := by decide +kernel
theorem dLM_347 : decode code 347 = .ok (.iload 4, 2) := by decide +kernel
theorem dLM_349 : decode code 349 = .ok (.iconst 1, 1) := by decide +kernel
theorem dLM_350 : decode code 350 = .ok (.iadd, 1) := by decide +kernel
theorem dLM_351 : decode code 351 = .ok (.iaload, 1) := by decide +kernel
theorem dLM_352 : decode code 352 = .ok (.invokevirtual 119, 3) := by decide +kernel
theorem dLM_355 : decode code 355 = .ok (.aload_n 2, 1) := by decide +kernel
theorem dLM_356 : decode code 356 = .ok (.aload_n 0, 1) := by decide +kernel
theorem dLM_357 : decode code 357 = .ok (.iload 4, 2) := by decide +kernel
theorem dLM_359 : decode code 359 = .ok (.iconst 1, 1) := by decide +kernel
theorem dLM_360 : decode code 360 = .ok (.iadd, 1) := by decide +kernel
theorem dLM_361 : decode code 361 = .ok (.iaload, 1) := by decide +kernel
theorem dLM_362 : decode code 362 = .ok (.invokevirtual 123, 3) := by decide +kernel
theorem dLM_365 : decode code 365 = .ok (.if_icmp .eq 2290, 3) := by decide +kernel
theorem dLM_368 : decode code 368 = .ok (.iconst 0, 1) := by decide +kernel
theorem dLM_369 : decode code 369 = .ok (.ireturn, 1) := by decide +kernel
theorem dLM_370 : decode code 370 = .ok (.aload_n 1, 1) := by decide +kernel
theorem dLM_371 : decode code 371 = .ok (.aload_n 3, 1) := by decide +kernel
theorem dLM_372 : decode code 372 = .ok (.invokestatic 124, 3) := by decide +kernel
theorem dLM_375 : decode code 375 = .ok (.istore 5, 2) := by decide +kernel
theorem dLM_377 : decode code 377 = .ok (.aload_n 2, 1) := by decide +kernel
theorem dLM_378 : decode code 378 = .ok (.invokevirtual 129, 3) := by decide +kernel
theorem dLM_381 : decode code 381 = .ok (.istore 6, 2) := by decide +kernel
theorem dLM_383 : decode code 383 = .ok (.aload_n 2, 1) := by decide +kernel
theorem dLM_384 : decode code 384 = .ok (.invokevirtual 130, 3) := by decide +kernel
theorem dLM_387 : decode code 387 = .ok (.iload 5, 2) := by decide +kernel
theorem dLM_389 : decode code 389 = .ok (.if_icmp .eq 5, 3) := by decide +kernel
theorem dLM_392 : decode code 392 = .ok (.iconst 0, 1) := by decide +kernel
theorem dLM_393 : decode code 393 = .ok (.ireturn, 1) := by decide +kernel
theorem dLM_394 : decode code 394 = .ok (.iload 5, 2) := by decide +kernel
theorem dLM_396 : decode code 396 = .ok (.ifCond .ne 15, 3) := by decide +kernel
theorem dLM_399 : decode code 399 = .ok (.aload_n 3, 1) := by decide +kernel
theorem dLM_400 : decode code 400 = .ok (.iconst 0, 1) := by decide +kernel
theorem dLM_401 : decode code 401 = .ok (.laload, 1) := by decide +kernel
theorem dLM_402 : decode code 402 = .ok (.iload 6, 2) := by decide +kernel
theorem dLM_404 : decode code 404 = .ok (.i2l, 1) := by decide +kernel
theorem dLM_405 : decode code 405 = .ok (.lcmp, 1) := by decide +kernel
theorem dLM_406 : decode code 406 = .ok (.ifCond .eq 5, 3) := by decide +kernel
theorem dLM_409 : decode code 409 = .ok (.iconst 0, 1) := by decide +kernel
theorem dLM_410 : decode code 410 = .ok (.ireturn, 1) := by decide +kernel
theorem dLM_411 : decode code 411 = .ok (.goto 2244, 3) := by decide +kernel
theorem dLM_414 : decode code 414 = .ok (.aload_n 1, 1) := by decide +kernel
theorem dLM_415 : decode code 415 = .ok (.aload_n 3, 1) := by decide +kernel
theorem dLM_416 : decode code 416 = .ok (.invokestatic 133, 3) := by decide +kernel
theorem dLM_419 : decode code 419 = .ok (.istore 5, 2) := by decide +kernel
theorem dLM_421 : decode code 421 = .ok (.aload_n 2, 1) := by decide +kernel
theorem dLM_422 : decode code 422 = .ok (.invokevirtual 135, 3) := by decide +kernel
theorem dLM_425 : decode code 425 = .ok (.istore 6, 2) := by decide +kernel
theorem dLM_427 : decode code 427 = .ok (.aload_n 2, 1) := by decide +kernel
theorem dLM_428 : decode code 428 = .ok (.invokevirtual 130, 3) := by decide +kernel
theorem dLM_431 : decode code 431 = .ok (.iload 5, 2) := by decide +kernel
theorem dLM_433 : decode code 433 = .ok (.if_icmp .eq 5, 3) := by decide +kernel
theorem dLM_436 : decode code 436 = .ok (.iconst 0, 1) := by decide +kernel
theorem dLM_437 : decode code 437 = .ok (.ireturn, 1) := by decide +kernel
theorem dLM_438 : decode code 438 = .ok (.iload 5, 2) := by decide +kernel
theorem dLM_440 : decode code 440 = .ok (.ifCond .ne 15, 3) := by decide +kernel
theorem dLM_443 : decode code 443 = .ok (.aload_n 3, 1) := by decide +kernel
theorem dLM_444 : decode code 444 = .ok (.iconst 0, 1) := by decide +kernel
theorem dLM_445 : decode code 445 = .ok (.laload, 1) := by decide +kernel
theorem dLM_446 : decode code 446 = .ok (.iload 6, 2) := by decide +kernel
theorem dLM_448 : decode code 448 = .ok (.i2l, 1) := by decide +kernel
theorem dLM_449 : decode code 449 = .ok (.lcmp, 1) := by decide +kernel
theorem dLM_450 : decode code 450 = .ok (.ifCond .eq 5, 3) := by decide +kernel
theorem dLM_453 : decode code 453 = .ok (.iconst 0, 1) := by decide +kernel
theorem dLM_454 : decode code 454 = .ok (.ireturn, 1) := by decide +kernel
theorem dLM_455 : decode code 455 = .ok (.goto 2200, 3) := by decide +kernel
theorem dLM_458 : decode code 458 = .ok (.aload_n 1, 1) := by decide +kernel
theorem dLM_459 : decode code 459 = .ok (.invokevirtual 136, 3) := by decide +kernel
theorem dLM_462 : decode code 462 = .ok (.aload_n 2, 1) := by decide +kernel
theorem dLM_463 : decode code 463 = .ok (.invokevirtual 139, 3) := by decide +kernel
theorem dLM_466 : decode code 466 = .ok (.if_icmp .eq 2189, 3) := by decide +kernel
theorem dLM_469 : decode code 469 = .ok (.iconst 0, 1) := by decide +kernel
theorem dLM_470 : decode code 470 = .ok (.ireturn, 1) := by decide +kernel
theorem dLM_471 : decode code 471 = .ok (.aload_n 1, 1) := by decide +kernel
theorem dLM_472 : decode code 472 = .ok (.aload_n 0, 1) := by decide +kernel
theorem dLM_473 : decode code 473 = .ok (.iload 4, 2) := by decide +kernel
theorem dLM_475 : decode code 475 = .ok (.iconst 1, 1) := by decide +kernel
theorem dLM_476 : decode code 476 = .ok (.iadd, 1) := by decide +kernel
theorem dLM_477 : decode code 477 = .ok (.iaload, 1) := by decide +kernel
theorem dLM_478 : decode code 478 = .ok (.aload_n 0, 1) := by decide +kernel
theorem dLM_479 : decode code 479 = .ok (.iload 4, 2) := by decide +kernel
theorem dLM_481 : decode code 481 = .ok (.iconst 2, 1) := by decide +kernel
theorem dLM_482 : decode code 482 = .ok (.iadd, 1) := by decide +kernel
theorem dLM_483 : decode code 483 = .ok (.iaload, 1) := by decide +kernel
theorem dLM_484 : decode code 484 = .ok (.aload_n 3, 1) := by decide +kernel
theorem dLM_485 : decode code 485 = .ok (.invokestatic 140, 3) := by decide +kernel
theorem dLM_488 : decode code 488 = .ok (.istore 5, 2) := by decide +kernel
theorem dLM_490 : decode code 490 = .ok (.aload_n 2, 1) := by decide +kernel
theorem dLM_491 : decode code 491 = .ok (.aload_n 0, 1) := by decide +kernel
theorem dLM_492 : decode code 492 = .ok (.iload 4, 2) := by decide +kernel
theorem dLM_494 : decode code 494 = .ok (.iconst 1, 1) := by decide +kernel
theorem dLM_495 : decode code 495 = .ok (.iadd, 1) := by decide +kernel
theorem dLM_496 : decode code 496 = .ok (.iaload, 1) := by decide +kernel
theorem dLM_497 : decode code 497 = .ok (.aload_n 0, 1) := by decide +kernel
theorem dLM_498 : decode code 498 = .ok (.iload 4, 2) := by decide +kernel
theorem dLM_500 : decode code 500 = .ok (.iconst 2, 1) := by decide +kernel
theorem dLM_501 : decode code 501 = .ok (.iadd, 1) := by decide +kernel
theorem dLM_502 : decode code 502 = .ok (.iaload, 1) := by decide +kernel
theorem dLM_503 : decode code 503 = .ok (.invokevirtual 143, 3) := by decide +kernel
theorem dLM_506 : decode code 506 = .ok (.istore 6, 2) := by decide +kernel
theorem dLM_508 : decode code 508 = .ok (.aload_n 2, 1) := by decide +kernel
theorem dLM_509 : decode code 509 = .ok (.invokevirtual 130, 3) := by decide +kernel
theorem dLM_512 : decode code 512 = .ok (.iload 5, 2) := by decide +kernel
theorem dLM_514 : decode code 514 = .ok (.if_icmp .eq 5, 3) := by decide +kernel
theorem dLM_517 : decode code 517 = .ok (.iconst 0, 1) := by decide +kernel
theorem dLM_518 : decode code 518 = .ok (.ireturn, 1) := by decide +kernel
theorem dLM_519 : decode code 519 = .ok (.iload 5, 2) := by decide +kernel
theorem dLM_521 : decode code 521 = .ok (.ifCond .ne 15, 3) := by decide +kernel
theorem dLM_524 : decode code 524 = .ok (.aload_n 3, 1) := by decide +kernel
theorem dLM_525 : decode code 525 = .ok (.iconst 0, 1) := by decide +kernel
theorem dLM_526 : decode code 526 = .ok (.laload, 1) := by decide +kernel
theorem dLM_527 : decode code 527 = .ok (.iload 6, 2) := by decide +kernel
theorem dLM_529 : decode code 529 = .ok (.i2l, 1) := by decide +kernel
theorem dLM_530 : decode code 530 = .ok (.lcmp, 1) := by decide +kernel
theorem dLM_531 : decode code 531 = .ok (.ifCond .eq 5, 3) := by decide +kernel
theorem dLM_534 : decode code 534 = .ok (.iconst 0, 1) := by decide +kernel
theorem dLM_535 : decode code 535 = .ok (.ireturn, 1) := by decide +kernel
theorem dLM_536 : decode code 536 = .ok (.goto 2119, 3) := by decide +kernel
theorem dLM_539 : decode code 539 = .ok (.aload_n 1, 1) := by decide +kernel
theorem dLM_540 : decode code 540 = .ok (.aload_n 0, 1) := by decide +kernel
theorem dLM_541 : decode code 541 = .ok (.iload 4, 2) := by decide +kernel
theorem dLM_543 : decode code 543 = .ok (.iconst 1, 1) := by decide +kernel
theorem dLM_544 : decode code 544 = .ok (.iadd, 1) := by decide +kernel
theorem dLM_545 : decode code 545 = .ok (.iaload, 1) := by decide +kernel
theorem dLM_546 : decode code 546 = .ok (.aload_n 0, 1) := by decide +kernel
theorem dLM_547 : decode code 547 = .ok (.iload 4, 2) := by decide +kernel
theorem dLM_549 : decode code 549 = .ok (.iconst 2, 1) := by decide +kernel
theorem dLM_550 : decode code 550 = .ok (.iadd, 1) := by decide +kernel
theorem dLM_551 : decode code 551 = .ok (.iaload, 1) := by decide +kernel
theorem dLM_552 : decode code 552 = .ok (.aload_n 3, 1) := by decide +kernel
theorem dLM_553 : decode code 553 = .ok (.invokestatic 144, 3) := by decide +kernel
theorem dLM_556 : decode code 556 = .ok (.istore 5, 2) := by decide +kernel
theorem dLM_558 : decode code 558 = .ok (.aload_n 2, 1) := by decide +kernel
theorem dLM_559 : decode code 559 = .ok (.aload_n 0, 1) := by decide +kernel
theorem dLM_560 : decode code 560 = .ok (.iload 4, 2) := by decide +kernel
theorem dLM_562 : decode code 562 = .ok (.iconst 1, 1) := by decide +kernel
theorem dLM_563 : decode code 563 = .ok (.iadd, 1) := by decide +kernel
theorem dLM_564 : decode code 564 = .ok (.iaload, 1) := by decide +kernel
theorem dLM_565 : decode code 565 = .ok (.aload_n 0, 1) := by decide +kernel
theorem dLM_566 : decode code 566 = .ok (.iload 4, 2) := by decide +kernel
theorem dLM_568 : decode code 568 = .ok (.iconst 2, 1) := by decide +kernel
theorem dLM_569 : decode code 569 = .ok (.iadd, 1) := by decide +kernel
theorem dLM_570 : decode code 570 = .ok (.iaload, 1) := by decide +kernel
theorem dLM_571 : decode code 571 = .ok (.invokevirtual 146, 3) := by decide +kernel
theorem dLM_574 : decode code 574 = .ok (.istore 6, 2) := by decide +kernel
theorem dLM_576 : decode code 576 = .ok (.aload_n 2, 1) := by decide +kernel
theorem dLM_577 : decode code 577 = .ok (.invokevirtual 130, 3) := by decide +kernel
theorem dLM_580 : decode code 580 = .ok (.iload 5, 2) := by decide +kernel
theorem dLM_582 : decode code 582 = .ok (.if_icmp .eq 5, 3) := by decide +kernel
theorem dLM_585 : decode code 585 = .ok (.iconst 0, 1) := by decide +kernel
theorem dLM_586 : decode code 586 = .ok (.ireturn, 1) := by decide +kernel
theorem dLM_587 : decode code 587 = .ok (.iload 5, 2) := by decide +kernel
theorem dLM_589 : decode code 589 = .ok (.ifCond .ne 15, 3) := by decide +kernel
theorem dLM_592 : decode code 592 = .ok (.aload_n 3, 1) := by decide +kernel
theorem dLM_593 : decode code 593 = .ok (.iconst 0, 1) := by decide +kernel
theorem dLM_594 : decode code 594 = .ok (.laload, 1) := by decide +kernel
theorem dLM_595 : decode code 595 = .ok (.iload 6, 2) := by decide +kernel
theorem dLM_597 : decode code 597 = .ok (.i2l, 1) := by decide +kernel
theorem dLM_598 : decode code 598 = .ok (.lcmp, 1) := by decide +kernel
theorem dLM_599 : decode code 599 = .ok (.ifCond .eq 5, 3) := by decide +kernel
theorem dLM_602 : decode code 602 = .ok (.iconst 0, 1) := by decide +kernel
theorem dLM_603 : decode code 603 = .ok (.ireturn, 1) := by decide +kernel
theorem dLM_604 : decode code 604 = .ok (.goto 2051, 3) := by decide +kernel
theorem dLM_607 : decode code 607 = .ok (.aload_n 1, 1) := by decide +kernel
theorem dLM_608 : decode code 608 = .ok (.aload_n 0, 1) := by decide +kernel
theorem dLM_609 : decode code 609 = .ok (.iload 4, 2) := by decide +kernel
theorem dLM_611 : decode code 611 = .ok (.iconst 1, 1) := by decide +kernel
theorem dLM_612 : decode code 612 = .ok (.iadd, 1) := by decide +kernel
theorem dLM_613 : decode code 613 = .ok (.iaload, 1) := by decide +kernel
theorem dLM_614 : decode code 614 = .ok (.aload_n 0, 1) := by decide +kernel
theorem dLM_615 : decode code 615 = .ok (.iload 4, 2) := by decide +kernel
theorem dLM_617 : decode code 617 = .ok (.iconst 2, 1) := by decide +kernel
theorem dLM_618 : decode code 618 = .ok (.iadd, 1) := by decide +kernel
theorem dLM_619 : decode code 619 = .ok (.iaload, 1) := by decide +kernel
theorem dLM_620 : decode code 620 = .ok (.aload_n 3, 1) := by decide +kernel
theorem dLM_621 : decode code 621 = .ok (.invokestatic 147, 3) := by decide +kernel
theorem dLM_624 : decode code 624 = .ok (.istore 5, 2) := by decide +kernel
theorem dLM_626 : decode code 626 = .ok (.aload_n 2, 1) := by decide +kernel
theorem dLM_627 : decode code 627 = .ok (.aload_n 0, 1) := by decide +kernel
theorem dLM_628 : decode code 628 = .ok (.iload 4, 2) := by decide +kernel
theorem dLM_630 : decode code 630 = .ok (.iconst 1, 1) := by decide +kernel
theorem dLM_631 : decode code 631 = .ok (.iadd, 1) := by decide +kernel
theorem dLM_632 : decode code 632 = .ok (.iaload, 1) := by decide +kernel
theorem dLM_633 : decode code 633 = .ok (.aload_n 0, 1) := by decide +kernel
theorem dLM_634 : decode code 634 = .ok (.iload 4, 2) := by decide +kernel
theorem dLM_636 : decode code 636 = .ok (.iconst 2, 1) := by decide +kernel
theorem dLM_637 : decode code 637 = .ok (.iadd, 1) := by decide +kernel
theorem dLM_638 : decode code 638 = .ok (.iaload, 1) := by decide +kernel
theorem dLM_639 : decode code 639 = .ok (.invokevirtual 149, 3) := by decide +kernel
theorem dLM_642 : decode code 642 = .ok (.istore 6, 2) := by decide +kernel
theorem dLM_644 : decode code 644 = .ok (.aload_n 2, 1) := by decide +kernel
theorem dLM_645 : decode code 645 = .ok (.invokevirtual 130, 3) := by decide +kernel
theorem dLM_648 : decode code 648 = .ok (.iload 5, 2) := by decide +kernel
theorem dLM_650 : decode code 650 = .ok (.if_icmp .eq 5, 3) := by decide +kernel
theorem dLM_653 : decode code 653 = .ok (.iconst 0, 1) := by decide +kernel
theorem dLM_654 : decode code 654 = .ok (.ireturn, 1) := by decide +kernel
theorem dLM_655 : decode code 655 = .ok (.iload 5, 2) := by decide +kernel
theorem dLM_657 : decode code 657 = .ok (.ifCond .ne 15, 3) := by decide +kernel
theorem dLM_660 : decode code 660 = .ok (.aload_n 3, 1) := by decide +kernel
theorem dLM_661 : decode code 661 = .ok (.iconst 0, 1) := by decide +kernel
theorem dLM_662 : decode code 662 = .ok (.laload, 1) := by decide +kernel
theorem dLM_663 : decode code 663 = .ok (.iload 6, 2) := by decide +kernel
theorem dLM_665 : decode code 665 = .ok (.i2l, 1) := by decide +kernel
theorem dLM_666 : decode code 666 = .ok (.lcmp, 1) := by decide +kernel
theorem dLM_667 : decode code 667 = .ok (.ifCond .eq 5, 3) := by decide +kernel
theorem dLM_670 : decode code 670 = .ok (.iconst 0, 1) := by decide +kernel
theorem dLM_671 : decode code 671 = .ok (.ireturn, 1) := by decide +kernel
theorem dLM_672 : decode code 672 = .ok (.goto 1983, 3) := by decide +kernel
theorem dLM_675 : decode code 675 = .ok (.aload_n 1, 1) := by decide +kernel
theorem dLM_676 : decode code 676 = .ok (.aload_n 0, 1) := by decide +kernel
theorem dLM_677 : decode code 677 = .ok (.iload 4, 2) := by decide +kernel
theorem dLM_679 : decode code 679 = .ok (.iconst 1, 1) := by decide +kernel
theorem dLM_680 : decode code 680 = .ok (.iadd, 1) := by decide +kernel
theorem dLM_681 : decode code 681 = .ok (.iaload, 1) := by decide +kernel
theorem dLM_682 : decode code 682 = .ok (.aload_n 0, 1) := by decide +kernel
theorem dLM_683 : decode code 683 = .ok (.iload 4, 2) := by decide +kernel
theorem dLM_685 : decode code 685 = .ok (.iconst 2, 1) := by decide +kernel
theorem dLM_686 : decode code 686 = .ok (.iadd, 1) := by decide +kernel
theorem dLM_687 : decode code 687 = .ok (.iaload, 1) := by decide +kernel
theorem dLM_688 : decode code 688 = .ok (.aload_n 3, 1) := by decide +kernel
theorem dLM_689 : decode code 689 = .ok (.invokestatic 150, 3) := by decide +kernel
theorem dLM_692 : decode code 692 = .ok (.istore 5, 2) := by decide +kernel
theorem dLM_694 : decode code 694 = .ok (.aload_n 2, 1) := by decide +kernel
theorem dLM_695 : decode code 695 = .ok (.aload_n 0, 1) := by decide +kernel
theorem dLM_696 : decode code 696 = .ok (.iload 4, 2) := by decide +kernel
theorem dLM_698 : decode code 698 = .ok (.iconst 1, 1) := by decide +kernel
theorem dLM_699 : decode code 699 = .ok (.iadd, 1) := by decide +kernel
theorem dLM_700 : decode code 700 = .ok (.iaload, 1) := by decide +kernel
theorem dLM_701 : decode code 701 = .ok (.aload_n 0, 1) := by decide +kernel
theorem dLM_702 : decode code 702 = .ok (.iload 4, 2) := by decide +kernel
theorem dLM_704 : decode code 704 = .ok (.iconst 2, 1) := by decide +kernel
theorem dLM_705 : decode code 705 = .ok (.iadd, 1) := by decide +kernel
theorem dLM_706 : decode code 706 = .ok (.iaload, 1) := by decide +kernel
theorem dLM_707 : decode code 707 = .ok (.invokevirtual 152, 3) := by decide +kernel
theorem dLM_710 : decode code 710 = .ok (.istore 6, 2) := by decide +kernel
theorem dLM_712 : decode code 712 = .ok (.aload_n 2, 1) := by decide +kernel
theorem dLM_713 : decode code 713 = .ok (.invokevirtual 130, 3) := by decide +kernel
theorem dLM_716 : decode code 716 = .ok (.iload 5, 2) := by decide +kernel
theorem dLM_718 : decode code 718 = .ok (.if_icmp .eq 5, 3) := by decide +kernel
theorem dLM_721 : decode code 721 = .ok (.iconst 0, 1) := by decide +kernel
theorem dLM_722 : decode code 722 = .ok (.ireturn, 1) := by decide +kernel
theorem dLM_723 : decode code 723 = .ok (.iload 5, 2) := by decide +kernel
theorem dLM_725 : decode code 725 = .ok (.ifCond .ne 15, 3) := by decide +kernel
theorem dLM_728 : decode code 728 = .ok (.aload_n 3, 1) := by decide +kernel
theorem dLM_729 : decode code 729 = .ok (.iconst 0, 1) := by decide +kernel
theorem dLM_730 : decode code 730 = .ok (.laload, 1) := by decide +kernel
theorem dLM_731 : decode code 731 = .ok (.iload 6, 2) := by decide +kernel
theorem dLM_733 : decode code 733 = .ok (.i2l, 1) := by decide +kernel
theorem dLM_734 : decode code 734 = .ok (.lcmp, 1) := by decide +kernel
theorem dLM_735 : decode code 735 = .ok (.ifCond .eq 5, 3) := by decide +kernel
theorem dLM_738 : decode code 738 = .ok (.iconst 0, 1) := by decide +kernel
theorem dLM_739 : decode code 739 = .ok (.ireturn, 1) := by decide +kernel
theorem dLM_740 : decode code 740 = .ok (.goto 1915, 3) := by decide +kernel
theorem dLM_743 : decode code 743 = .ok (.aload_n 1, 1) := by decide +kernel
theorem dLM_744 : decode code 744 = .ok (.aload_n 0, 1) := by decide +kernel
theorem dLM_745 : decode code 745 = .ok (.iload 4, 2) := by decide +kernel
theorem dLM_747 : decode code 747 = .ok (.iconst 1, 1) := by decide +kernel
theorem dLM_748 : decode code 748 = .ok (.iadd, 1) := by decide +kernel
theorem dLM_749 : decode code 749 = .ok (.iaload, 1) := by decide +kernel
theorem dLM_750 : decode code 750 = .ok (.aload_n 0, 1) := by decide +kernel
theorem dLM_751 : decode code 751 = .ok (.iload 4, 2) := by decide +kernel
theorem dLM_753 : decode code 753 = .ok (.iconst 2, 1) := by decide +kernel
theorem dLM_754 : decode code 754 = .ok (.iadd, 1) := by decide +kernel
theorem dLM_755 : decode code 755 = .ok (.iaload, 1) := by decide +kernel
theorem dLM_756 : decode code 756 = .ok (.aload_n 3, 1) := by decide +kernel
theorem dLM_757 : decode code 757 = .ok (.invokestatic 153, 3) := by decide +kernel
theorem dLM_760 : decode code 760 = .ok (.istore 5, 2) := by decide +kernel
theorem dLM_762 : decode code 762 = .ok (.aload_n 2, 1) := by decide +kernel
theorem dLM_763 : decode code 763 = .ok (.aload_n 0, 1) := by decide +kernel
theorem dLM_764 : decode code 764 = .ok (.iload 4, 2) := by decide +kernel
theorem dLM_766 : decode code 766 = .ok (.iconst 1, 1) := by decide +kernel
theorem dLM_767 : decode code 767 = .ok (.iadd, 1) := by decide +kernel
theorem dLM_768 : decode code 768 = .ok (.iaload, 1) := by decide +kernel
theorem dLM_769 : decode code 769 = .ok (.aload_n 0, 1) := by decide +kernel
theorem dLM_770 : decode code 770 = .ok (.iload 4, 2) := by decide +kernel
theorem dLM_772 : decode code 772 = .ok (.iconst 2, 1) := by decide +kernel
theorem dLM_773 : decode code 773 = .ok (.iadd, 1) := by decide +kernel
theorem dLM_774 : decode code 774 = .ok (.iaload, 1) := by decide +kernel
theorem dLM_775 : decode code 775 = .ok (.invokevirtual 155, 3) := by decide +kernel
theorem dLM_778 : decode code 778 = .ok (.istore 6, 2) := by decide +kernel
theorem dLM_780 : decode code 780 = .ok (.aload_n 2, 1) := by decide +kernel
theorem dLM_781 : decode code 781 = .ok (.invokevirtual 130, 3) := by decide +kernel
theorem dLM_784 : decode code 784 = .ok (.iload 5, 2) := by decide +kernel
theorem dLM_786 : decode code 786 = .ok (.if_icmp .eq 5, 3) := by decide +kernel
theorem dLM_789 : decode code 789 = .ok (.iconst 0, 1) := by decide +kernel
theorem dLM_790 : decode code 790 = .ok (.ireturn, 1) := by decide +kernel
theorem dLM_791 : decode code 791 = .ok (.iload 5, 2) := by decide +kernel
theorem dLM_793 : decode code 793 = .ok (.ifCond .ne 15, 3) := by decide +kernel
theorem dLM_796 : decode code 796 = .ok (.aload_n 3, 1) := by decide +kernel
theorem dLM_797 : decode code 797 = .ok (.iconst 0, 1) := by decide +kernel
theorem dLM_798 : decode code 798 = .ok (.laload, 1) := by decide +kernel
theorem dLM_799 : decode code 799 = .ok (.iload 6, 2) := by decide +kernel
theorem dLM_801 : decode code 801 = .ok (.i2l, 1) := by decide +kernel
theorem dLM_802 : decode code 802 = .ok (.lcmp, 1) := by decide +kernel
theorem dLM_803 : decode code 803 = .ok (.ifCond .eq 5, 3) := by decide +kernel
theorem dLM_806 : decode code 806 = .ok (.iconst 0, 1) := by decide +kernel
theorem dLM_807 : decode code 807 = .ok (.ireturn, 1) := by decide +kernel
theorem dLM_808 : decode code 808 = .ok (.goto 1847, 3) := by decide +kernel
theorem dLM_811 : decode code 811 = .ok (.aload_n 1, 1) := by decide +kernel
theorem dLM_812 : decode code 812 = .ok (.aload_n 0, 1) := by decide +kernel
theorem dLM_813 : decode code 813 = .ok (.iload 4, 2) := by decide +kernel
theorem dLM_815 : decode code 815 = .ok (.iconst 1, 1) := by decide +kernel
theorem dLM_816 : decode code 816 = .ok (.iadd, 1) := by decide +kernel
theorem dLM_817 : decode code 817 = .ok (.iaload, 1) := by decide +kernel
theorem dLM_818 : decode code 818 = .ok (.aload_n 0, 1) := by decide +kernel
theorem dLM_819 : decode code 819 = .ok (.iload 4, 2) := by decide +kernel
theorem dLM_821 : decode code 821 = .ok (.iconst 2, 1) := by decide +kernel
theorem dLM_822 : decode code 822 = .ok (.iadd, 1) := by decide +kernel
theorem dLM_823 : decode code 823 = .ok (.iaload, 1) := by decide +kernel
theorem dLM_824 : decode code 824 = .ok (.aload_n 3, 1) := by decide +kernel
theorem dLM_825 : decode code 825 = .ok (.invokestatic 156, 3) := by decide +kernel
theorem dLM_828 : decode code 828 = .ok (.istore 5, 2) := by decide +kernel
theorem dLM_830 : decode code 830 = .ok (.aload_n 2, 1) := by decide +kernel
theorem dLM_831 : decode code 831 = .ok (.aload_n 0, 1) := by decide +kernel
theorem dLM_832 : decode code 832 = .ok (.iload 4, 2) := by decide +kernel
theorem dLM_834 : decode code 834 = .ok (.iconst 1, 1) := by decide +kernel
theorem dLM_835 : decode code 835 = .ok (.iadd, 1) := by decide +kernel
theorem dLM_836 : decode code 836 = .ok (.iaload, 1) := by decide +kernel
theorem dLM_837 : decode code 837 = .ok (.aload_n 0, 1) := by decide +kernel
theorem dLM_838 : decode code 838 = .ok (.iload 4, 2) := by decide +kernel
theorem dLM_840 : decode code 840 = .ok (.iconst 2, 1) := by decide +kernel
theorem dLM_841 : decode code 841 = .ok (.iadd, 1) := by decide +kernel
theorem dLM_842 : decode code 842 = .ok (.iaload, 1) := by decide +kernel
theorem dLM_843 : decode code 843 = .ok (.invokevirtual 158, 3) := by decide +kernel
theorem dLM_846 : decode code 846 = .ok (.istore 6, 2) := by decide +kernel
theorem dLM_848 : decode code 848 = .ok (.aload_n 2, 1) := by decide +kernel
theorem dLM_849 : decode code 849 = .ok (.invokevirtual 130, 3) := by decide +kernel
theorem dLM_852 : decode code 852 = .ok (.iload 5, 2) := by decide +kernel
theorem dLM_854 : decode code 854 = .ok (.if_icmp .eq 5, 3) := by decide +kernel
theorem dLM_857 : decode code 857 = .ok (.iconst 0, 1) := by decide +kernel
theorem dLM_858 : decode code 858 = .ok (.ireturn, 1) := by decide +kernel
theorem dLM_859 : decode code 859 = .ok (.iload 5, 2) := by decide +kernel
theorem dLM_861 : decode code 861 = .ok (.ifCond .ne 15, 3) := by decide +kernel
theorem dLM_864 : decode code 864 = .ok (.aload_n 3, 1) := by decide +kernel
theorem dLM_865 : decode code 865 = .ok (.iconst 0, 1) := by decide +kernel
theorem dLM_866 : decode code 866 = .ok (.laload, 1) := by decide +kernel
theorem dLM_867 : decode code 867 = .ok (.iload 6, 2) := by decide +kernel
theorem dLM_869 : decode code 869 = .ok (.i2l, 1) := by decide +kernel
theorem dLM_870 : decode code 870 = .ok (.lcmp, 1) := by decide +kernel
theorem dLM_871 : decode code 871 = .ok (.ifCond .eq 5, 3) := by decide +kernel
theorem dLM_874 : decode code 874 = .ok (.iconst 0, 1) := by decide +kernel
theorem dLM_875 : decode code 875 = .ok (.ireturn, 1) := by decide +kernel
theorem dLM_876 : decode code 876 = .ok (.goto 1779, 3) := by decide +kernel
theorem dLM_879 : decode code 879 = .ok (.aload_n 1, 1) := by decide +kernel
theorem dLM_880 : decode code 880 = .ok (.aload_n 0, 1) := by decide +kernel
theorem dLM_881 : decode code 881 = .ok (.iload 4, 2) := by decide +kernel
theorem dLM_883 : decode code 883 = .ok (.iconst 1, 1) := by decide +kernel
theorem dLM_884 : decode code 884 = .ok (.iadd, 1) := by decide +kernel
theorem dLM_885 : decode code 885 = .ok (.iaload, 1) := by decide +kernel
theorem dLM_886 : decode code 886 = .ok (.aload_n 3, 1) := by decide +kernel
theorem dLM_887 : decode code 887 = .ok (.invokestatic 159, 3) := by decide +kernel
theorem dLM_890 : decode code 890 = .ok (.istore 5, 2) := by decide +kernel
theorem dLM_892 : decode code 892 = .ok (.aload_n 2, 1) := by decide +kernel
theorem dLM_893 : decode code 893 = .ok (.aload_n 0, 1) := by decide +kernel
theorem dLM_894 : decode code 894 = .ok (.iload 4, 2) := by decide +kernel
theorem dLM_896 : decode code 896 = .ok (.iconst 1, 1) := by decide +kernel
theorem dLM_897 : decode code 897 = .ok (.iadd, 1) := by decide +kernel
theorem dLM_898 : decode code 898 = .ok (.iaload, 1) := by decide +kernel
theorem dLM_899 : decode code 899 = .ok (.invokevirtual 162, 3) := by decide +kernel
theorem dLM_902 : decode code 902 = .ok (.istore 6, 2) := by decide +kernel
theorem dLM_904 : decode code 904 = .ok (.aload_n 2, 1) := by decide +kernel
theorem dLM_905 : decode code 905 = .ok (.invokevirtual 130, 3) := by decide +kernel
theorem dLM_908 : decode code 908 = .ok (.iload 5, 2) := by decide +kernel
theorem dLM_910 : decode code 910 = .ok (.if_icmp .eq 5, 3) := by decide +kernel
theorem dLM_913 : decode code 913 = .ok (.iconst 0, 1) := by decide +kernel
theorem dLM_914 : decode code 914 = .ok (.ireturn, 1) := by decide +kernel
theorem dLM_915 : decode code 915 = .ok (.iload 5, 2) := by decide +kernel
theorem dLM_917 : decode code 917 = .ok (.ifCond .ne 15, 3) := by decide +kernel
theorem dLM_920 : decode code 920 = .ok (.aload_n 3, 1) := by decide +kernel
theorem dLM_921 : decode code 921 = .ok (.iconst 0, 1) := by decide +kernel
theorem dLM_922 : decode code 922 = .ok (.laload, 1) := by decide +kernel
theorem dLM_923 : decode code 923 = .ok (.iload 6, 2) := by decide +kernel
theorem dLM_925 : decode code 925 = .ok (.i2l, 1) := by decide +kernel
theorem dLM_926 : decode code 926 = .ok (.lcmp, 1) := by decide +kernel
theorem dLM_927 : decode code 927 = .ok (.ifCond .eq 5, 3) := by decide +kernel
theorem dLM_930 : decode code 930 = .ok (.iconst 0, 1) := by decide +kernel
theorem dLM_931 : decode code 931 = .ok (.ireturn, 1) := by decide +kernel
theorem dLM_932 : decode code 932 = .ok (.goto 1723, 3) := by decide +kernel
theorem dLM_935 : decode code 935 = .ok (.aload_n 1, 1) := by decide +kernel
theorem dLM_936 : decode code 936 = .ok (.aload_n 0, 1) := by decide +kernel
theorem dLM_937 : decode code 937 = .ok (.iload 4, 2) := by decide +kernel
theorem dLM_939 : decode code 939 = .ok (.iconst 1, 1) := by decide +kernel
theorem dLM_940 : decode code 940 = .ok (.iadd, 1) := by decide +kernel
theorem dLM_941 : decode code 941 = .ok (.iaload, 1) := by decide +kernel
theorem dLM_942 : decode code 942 = .ok (.aload_n 3, 1) := by decide +kernel
theorem dLM_943 : decode code 943 = .ok (.invokestatic 163, 3) := by decide +kernel
theorem dLM_946 : decode code 946 = .ok (.istore 5, 2) := by decide +kernel
theorem dLM_948 : decode code 948 = .ok (.aload_n 2, 1) := by decide +kernel
theorem dLM_949 : decode code 949 = .ok (.aload_n 0, 1) := by decide +kernel
theorem dLM_950 : decode code 950 = .ok (.iload 4, 2) := by decide +kernel
theorem dLM_952 : decode code 952 = .ok (.iconst 1, 1) := by decide +kernel
theorem dLM_953 : decode code 953 = .ok (.iadd, 1) := by decide +kernel
theorem dLM_954 : decode code 954 = .ok (.iaload, 1) := by decide +kernel
theorem dLM_955 : decode code 955 = .ok (.invokevirtual 165, 3) := by decide +kernel
theorem dLM_958 : decode code 958 = .ok (.istore 6, 2) := by decide +kernel
theorem dLM_960 : decode code 960 = .ok (.aload_n 2, 1) := by decide +kernel
theorem dLM_961 : decode code 961 = .ok (.invokevirtual 130, 3) := by decide +kernel
theorem dLM_964 : decode code 964 = .ok (.iload 5, 2) := by decide +kernel
theorem dLM_966 : decode code 966 = .ok (.if_icmp .eq 5, 3) := by decide +kernel
theorem dLM_969 : decode code 969 = .ok (.iconst 0, 1) := by decide +kernel
theorem dLM_970 : decode code 970 = .ok (.ireturn, 1) := by decide +kernel
theorem dLM_971 : decode code 971 = .ok (.iload 5, 2) := by decide +kernel
theorem dLM_973 : decode code 973 = .ok (.ifCond .ne 15, 3) := by decide +kernel
theorem dLM_976 : decode code 976 = .ok (.aload_n 3, 1) := by decide +kernel
theorem dLM_977 : decode code 977 = .ok (.iconst 0, 1) := by decide +kernel
theorem dLM_978 : decode code 978 = .ok (.laload, 1) := by decide +kernel
theorem dLM_979 : decode code 979 = .ok (.iload 6, 2) := by decide +kernel
theorem dLM_981 : decode code 981 = .ok (.i2l, 1) := by decide +kernel
theorem dLM_982 : decode code 982 = .ok (.lcmp, 1) := by decide +kernel
theorem dLM_983 : decode code 983 = .ok (.ifCond .eq 5, 3) := by decide +kernel
theorem dLM_986 : decode code 986 = .ok (.iconst 0, 1) := by decide +kernel
theorem dLM_987 : decode code 987 = .ok (.ireturn, 1) := by decide +kernel
theorem dLM_988 : decode code 988 = .ok (.goto 1667, 3) := by decide +kernel
theorem dLM_991 : decode code 991 = .ok (.aload_n 1, 1) := by decide +kernel
theorem dLM_992 : decode code 992 = .ok (.aload_n 0, 1) := by decide +kernel
theorem dLM_993 : decode code 993 = .ok (.iload 4, 2) := by decide +kernel
theorem dLM_995 : decode code 995 = .ok (.iconst 1, 1) := by decide +kernel
theorem dLM_996 : decode code 996 = .ok (.iadd, 1) := by decide +kernel
theorem dLM_997 : decode code 997 = .ok (.iaload, 1) := by decide +kernel
theorem dLM_998 : decode code 998 = .ok (.aload_n 0, 1) := by decide +kernel
theorem dLM_999 : decode code 999 = .ok (.iload 4, 2) := by decide +kernel
theorem dLM_1001 : decode code 1001 = .ok (.iconst 2, 1) := by decide +kernel
theorem dLM_1002 : decode code 1002 = .ok (.iadd, 1) := by decide +kernel
theorem dLM_1003 : decode code 1003 = .ok (.iaload, 1) := by decide +kernel
theorem dLM_1004 : decode code 1004 = .ok (.aload_n 3, 1) := by decide +kernel
theorem dLM_1005 : decode code 1005 = .ok (.invokestatic 166, 3) := by decide +kernel
theorem dLM_1008 : decode code 1008 = .ok (.istore 5, 2) := by decide +kernel
theorem dLM_1010 : decode code 1010 = .ok (.aload_n 2, 1) := by decide +kernel
theorem dLM_1011 : decode code 1011 = .ok (.aload_n 0, 1) := by decide +kernel
theorem dLM_1012 : decode code 1012 = .ok (.iload 4, 2) := by decide +kernel
theorem dLM_1014 : decode code 1014 = .ok (.iconst 1, 1) := by decide +kernel
theorem dLM_1015 : decode code 1015 = .ok (.iadd, 1) := by decide +kernel
theorem dLM_1016 : decode code 1016 = .ok (.iaload, 1) := by decide +kernel
theorem dLM_1017 : decode code 1017 = .ok (.aload_n 0, 1) := by decide +kernel
theorem dLM_1018 : decode code 1018 = .ok (.iload 4, 2) := by decide +kernel
theorem dLM_1020 : decode code 1020 = .ok (.iconst 2, 1) := by decide +kernel
theorem dLM_1021 : decode code 1021 = .ok (.iadd, 1) := by decide +kernel
theorem dLM_1022 : decode code 1022 = .ok (.iaload, 1) := by decide +kernel
theorem dLM_1023 : decode code 1023 = .ok (.invokevirtual 168, 3) := by decide +kernel
theorem dLM_1026 : decode code 1026 = .ok (.istore 6, 2) := by decide +kernel
theorem dLM_1028 : decode code 1028 = .ok (.aload_n 2, 1) := by decide +kernel
theorem dLM_1029 : decode code 1029 = .ok (.invokevirtual 130, 3) := by decide +kernel
theorem dLM_1032 : decode code 1032 = .ok (.iload 5, 2) := by decide +kernel
theorem dLM_1034 : decode code 1034 = .ok (.if_icmp .eq 5, 3) := by decide +kernel
theorem dLM_1037 : decode code 1037 = .ok (.iconst 0, 1) := by decide +kernel
theorem dLM_1038 : decode code 1038 = .ok (.ireturn, 1) := by decide +kernel
theorem dLM_1039 : decode code 1039 = .ok (.iload 5, 2) := by decide +kernel
theorem dLM_1041 : decode code 1041 = .ok (.ifCond .ne 15, 3) := by decide +kernel
theorem dLM_1044 : decode code 1044 = .ok (.aload_n 3, 1) := by decide +kernel
theorem dLM_1045 : decode code 1045 = .ok (.iconst 0, 1) := by decide +kernel
theorem dLM_1046 : decode code 1046 = .ok (.laload, 1) := by decide +kernel
theorem dLM_1047 : decode code 1047 = .ok (.iload 6, 2) := by decide +kernel
theorem dLM_1049 : decode code 1049 = .ok (.i2l, 1) := by decide +kernel
theorem dLM_1050 : decode code 1050 = .ok (.lcmp, 1) := by decide +kernel
theorem dLM_1051 : decode code 1051 = .ok (.ifCond .eq 5, 3) := by decide +kernel
theorem dLM_1054 : decode code 1054 = .ok (.iconst 0, 1) := by decide +kernel
theorem dLM_1055 : decode code 1055 = .ok (.ireturn, 1) := by decide +kernel
theorem dLM_1056 : decode code 1056 = .ok (.goto 1599, 3) := by decide +kernel
theorem dLM_1059 : decode code 1059 = .ok (.aload_n 1, 1) := by decide +kernel
theorem dLM_1060 : decode code 1060 = .ok (.invokevirtual 169, 3) := by decide +kernel
theorem dLM_1063 : decode code 1063 = .ok (.aload_n 2, 1) := by decide +kernel
theorem dLM_1064 : decode code 1064 = .ok (.invokevirtual 172, 3) := by decide +kernel
theorem dLM_1067 : decode code 1067 = .ok (.if_icmp .eq 1588, 3) := by decide +kernel
theorem dLM_1070 : decode code 1070 = .ok (.iconst 0, 1) := by decide +kernel
theorem dLM_1071 : decode code 1071 = .ok (.ireturn, 1) := by decide +kernel
theorem dLM_1072 : decode code 1072 = .ok (.aload_n 1, 1) := by decide +kernel
theorem dLM_1073 : decode code 1073 = .ok (.aload_n 0, 1) := by decide +kernel
theorem dLM_1074 : decode code 1074 = .ok (.iload 4, 2) := by decide +kernel
theorem dLM_1076 : decode code 1076 = .ok (.iconst 1, 1) := by decide +kernel
theorem dLM_1077 : decode code 1077 = .ok (.iadd, 1) := by decide +kernel
theorem dLM_1078 : decode code 1078 = .ok (.iaload, 1) := by decide +kernel
theorem dLM_1079 : decode code 1079 = .ok (.aload_n 3, 1) := by decide +kernel
theorem dLM_1080 : decode code 1080 = .ok (.invokestatic 173, 3) := by decide +kernel
theorem dLM_1083 : decode code 1083 = .ok (.istore 5, 2) := by decide +kernel
theorem dLM_1085 : decode code 1085 = .ok (.aload_n 2, 1) := by decide +kernel
theorem dLM_1086 : decode code 1086 = .ok (.aload_n 0, 1) := by decide +kernel
theorem dLM_1087 : decode code 1087 = .ok (.iload 4, 2) := by decide +kernel
theorem dLM_1089 : decode code 1089 = .ok (.iconst 1, 1) := by decide +kernel
theorem dLM_1090 : decode code 1090 = .ok (.iadd, 1) := by decide +kernel
theorem dLM_1091 : decode code 1091 = .ok (.iaload, 1) := by decide +kernel
theorem dLM_1092 : decode code 1092 = .ok (.invokevirtual 175, 3) := by decide +kernel
theorem dLM_1095 : decode code 1095 = .ok (.istore 6, 2) := by decide +kernel
theorem dLM_1097 : decode code 1097 = .ok (.aload_n 2, 1) := by decide +kernel
theorem dLM_1098 : decode code 1098 = .ok (.invokevirtual 130, 3) := by decide +kernel
theorem dLM_1101 : decode code 1101 = .ok (.iload 5, 2) := by decide +kernel
theorem dLM_1103 : decode code 1103 = .ok (.if_icmp .eq 5, 3) := by decide +kernel
theorem dLM_1106 : decode code 1106 = .ok (.iconst 0, 1) := by decide +kernel
theorem dLM_1107 : decode code 1107 = .ok (.ireturn, 1) := by decide +kernel
theorem dLM_1108 : decode code 1108 = .ok (.iload 5, 2) := by decide +kernel
theorem dLM_1110 : decode code 1110 = .ok (.ifCond .ne 15, 3) := by decide +kernel
theorem dLM_1113 : decode code 1113 = .ok (.aload_n 3, 1) := by decide +kernel
theorem dLM_1114 : decode code 1114 = .ok (.iconst 0, 1) := by decide +kernel
theorem dLM_1115 : decode code 1115 = .ok (.laload, 1) := by decide +kernel
theorem dLM_1116 : decode code 1116 = .ok (.iload 6, 2) := by decide +kernel
theorem dLM_1118 : decode code 1118 = .ok (.i2l, 1) := by decide +kernel
theorem dLM_1119 : decode code 1119 = .ok (.lcmp, 1) := by decide +kernel
theorem dLM_1120 : decode code 1120 = .ok (.ifCond .eq 5, 3) := by decide +kernel
theorem dLM_1123 : decode code 1123 = .ok (.iconst 0, 1) := by decide +kernel
theorem dLM_1124 : decode code 1124 = .ok (.ireturn, 1) := by decide +kernel
theorem dLM_1125 : decode code 1125 = .ok (.goto 1530, 3) := by decide +kernel
theorem dLM_1128 : decode code 1128 = .ok (.aload_n 1, 1) := by decide +kernel
theorem dLM_1129 : decode code 1129 = .ok (.aload_n 0, 1) := by decide +kernel
theorem dLM_1130 : decode code 1130 = .ok (.iload 4, 2) := by decide +kernel
theorem dLM_1132 : decode code 1132 = .ok (.iconst 1, 1) := by decide +kernel
theorem dLM_1133 : decode code 1133 = .ok (.iadd, 1) := by decide +kernel
theorem dLM_1134 : decode code 1134 = .ok (.iaload, 1) := by decide +kernel
theorem dLM_1135 : decode code 1135 = .ok (.aload_n 0, 1) := by decide +kernel
theorem dLM_1136 : decode code 1136 = .ok (.iload 4, 2) := by decide +kernel
theorem dLM_1138 : decode code 1138 = .ok (.iconst 2, 1) := by decide +kernel
theorem dLM_1139 : decode code 1139 = .ok (.iadd, 1) := by decide +kernel
theorem dLM_1140 : decode code 1140 = .ok (.iaload, 1) := by decide +kernel
theorem dLM_1141 : decode code 1141 = .ok (.aload_n 0, 1) := by decide +kernel
theorem dLM_1142 : decode code 1142 = .ok (.iload 4, 2) := by decide +kernel
theorem dLM_1144 : decode code 1144 = .ok (.iconst 3, 1) := by decide +kernel
theorem dLM_1145 : decode code 1145 = .ok (.iadd, 1) := by decide +kernel
theorem dLM_1146 : decode code 1146 = .ok (.iaload, 1) := by decide +kernel
theorem dLM_1147 : decode code 1147 = .ok (.aload_n 3, 1) := by decide +kernel
theorem dLM_1148 : decode code 1148 = .ok (.invokestatic 176, 3) := by decide +kernel
theorem dLM_1151 : decode code 1151 = .ok (.istore 5, 2) := by decide +kernel
theorem dLM_1153 : decode code 1153 = .ok (.aload_n 2, 1) := by decide +kernel
theorem dLM_1154 : decode code 1154 = .ok (.aload_n 0, 1) := by decide +kernel
theorem dLM_1155 : decode code 1155 = .ok (.iload 4, 2) := by decide +kernel
theorem dLM_1157 : decode code 1157 = .ok (.iconst 1, 1) := by decide +kernel
theorem dLM_1158 : decode code 1158 = .ok (.iadd, 1) := by decide +kernel
theorem dLM_1159 : decode code 1159 = .ok (.iaload, 1) := by decide +kernel
theorem dLM_1160 : decode code 1160 = .ok (.aload_n 0, 1) := by decide +kernel
theorem dLM_1161 : decode code 1161 = .ok (.iload 4, 2) := by decide +kernel
theorem dLM_1163 : decode code 1163 = .ok (.iconst 2, 1) := by decide +kernel
theorem dLM_1164 : decode code 1164 = .ok (.iadd, 1) := by decide +kernel
theorem dLM_1165 : decode code 1165 = .ok (.iaload, 1) := by decide +kernel
theorem dLM_1166 : decode code 1166 = .ok (.aload_n 0, 1) := by decide +kernel
theorem dLM_1167 : decode code 1167 = .ok (.iload 4, 2) := by decide +kernel
theorem dLM_1169 : decode code 1169 = .ok (.iconst 3, 1) := by decide +kernel
theorem dLM_1170 : decode code 1170 = .ok (.iadd, 1) := by decide +kernel
theorem dLM_1171 : decode code 1171 = .ok (.iaload, 1) := by decide +kernel
theorem dLM_1172 : decode code 1172 = .ok (.invokevirtual 179, 3) := by decide +kernel
theorem dLM_1175 : decode code 1175 = .ok (.istore 6, 2) := by decide +kernel
theorem dLM_1177 : decode code 1177 = .ok (.aload_n 2, 1) := by decide +kernel
theorem dLM_1178 : decode code 1178 = .ok (.invokevirtual 130, 3) := by decide +kernel
theorem dLM_1181 : decode code 1181 = .ok (.iload 5, 2) := by decide +kernel
theorem dLM_1183 : decode code 1183 = .ok (.if_icmp .eq 5, 3) := by decide +kernel
theorem dLM_1186 : decode code 1186 = .ok (.iconst 0, 1) := by decide +kernel
theorem dLM_1187 : decode code 1187 = .ok (.ireturn, 1) := by decide +kernel
theorem dLM_1188 : decode code 1188 = .ok (.iload 5, 2) := by decide +kernel
theorem dLM_1190 : decode code 1190 = .ok (.ifCond .ne 15, 3) := by decide +kernel
theorem dLM_1193 : decode code 1193 = .ok (.aload_n 3, 1) := by decide +kernel
theorem dLM_1194 : decode code 1194 = .ok (.iconst 0, 1) := by decide +kernel
theorem dLM_1195 : decode code 1195 = .ok (.laload, 1) := by decide +kernel
theorem dLM_1196 : decode code 1196 = .ok (.iload 6, 2) := by decide +kernel
theorem dLM_1198 : decode code 1198 = .ok (.i2l, 1) := by decide +kernel
theorem dLM_1199 : decode code 1199 = .ok (.lcmp, 1) := by decide +kernel
theorem dLM_1200 : decode code 1200 = .ok (.ifCond .eq 5, 3) := by decide +kernel
theorem dLM_1203 : decode code 1203 = .ok (.iconst 0, 1) := by decide +kernel
theorem dLM_1204 : decode code 1204 = .ok (.ireturn, 1) := by decide +kernel
theorem dLM_1205 : decode code 1205 = .ok (.goto 1450, 3) := by decide +kernel
theorem dLM_1208 : decode code 1208 = .ok (.aload_n 1, 1) := by decide +kernel
theorem dLM_1209 : decode code 1209 = .ok (.invokevirtual 180, 3) := by decide +kernel
theorem dLM_1212 : decode code 1212 = .ok (.aload_n 2, 1) := by decide +kernel
theorem dLM_1213 : decode code 1213 = .ok (.invokevirtual 183, 3) := by decide +kernel
theorem dLM_1216 : decode code 1216 = .ok (.if_icmp .eq 1439, 3) := by decide +kernel
theorem dLM_1219 : decode code 1219 = .ok (.iconst 0, 1) := by decide +kernel
theorem dLM_1220 : decode code 1220 = .ok (.ireturn, 1) := by decide +kernel
theorem dLM_1221 : decode code 1221 = .ok (.aload_n 1, 1) := by decide +kernel
theorem dLM_1222 : decode code 1222 = .ok (.invokevirtual 184, 3) := by decide +kernel
theorem dLM_1225 : decode code 1225 = .ok (.aload_n 2, 1) := by decide +kernel
theorem dLM_1226 : decode code 1226 = .ok (.invokevirtual 187, 3) := by decide +kernel
theorem dLM_1229 : decode code 1229 = .ok (.if_icmp .eq 1426, 3) := by decide +kernel
theorem dLM_1232 : decode code 1232 = .ok (.iconst 0, 1) := by decide +kernel
theorem dLM_1233 : decode code 1233 = .ok (.ireturn, 1) := by decide +kernel
theorem dLM_1234 : decode code 1234 = .ok (.aload_n 1, 1) := by decide +kernel
theorem dLM_1235 : decode code 1235 = .ok (.invokevirtual 188, 3) := by decide +kernel
theorem dLM_1238 : decode code 1238 = .ok (.aload_n 2, 1) := by decide +kernel
theorem dLM_1239 : decode code 1239 = .ok (.invokevirtual 191, 3) := by decide +kernel
theorem dLM_1242 : decode code 1242 = .ok (.if_icmp .eq 1413, 3) := by decide +kernel
theorem dLM_1245 : decode code 1245 = .ok (.iconst 0, 1) := by decide +kernel
theorem dLM_1246 : decode code 1246 = .ok (.ireturn, 1) := by decide +kernel
theorem dLM_1247 : decode code 1247 = .ok (.aload_n 1, 1) := by decide +kernel
theorem dLM_1248 : decode code 1248 = .ok (.invokevirtual 192, 3) := by decide +kernel
theorem dLM_1251 : decode code 1251 = .ok (.aload_n 2, 1) := by decide +kernel
theorem dLM_1252 : decode code 1252 = .ok (.invokevirtual 195, 3) := by decide +kernel
theorem dLM_1255 : decode code 1255 = .ok (.if_icmp .eq 1400, 3) := by decide +kernel
theorem dLM_1258 : decode code 1258 = .ok (.iconst 0, 1) := by decide +kernel
theorem dLM_1259 : decode code 1259 = .ok (.ireturn, 1) := by decide +kernel
theorem dLM_1260 : decode code 1260 = .ok (.aload_n 1, 1) := by decide +kernel
theorem dLM_1261 : decode code 1261 = .ok (.aload_n 0, 1) := by decide +kernel
theorem dLM_1262 : decode code 1262 = .ok (.iload 4, 2) := by decide +kernel
theorem dLM_1264 : decode code 1264 = .ok (.iconst 1, 1) := by decide +kernel
theorem dLM_1265 : decode code 1265 = .ok (.iadd, 1) := by decide +kernel
theorem dLM_1266 : decode code 1266 = .ok (.iaload, 1) := by decide +kernel
theorem dLM_1267 : decode code 1267 = .ok (.ifCond .eq 7, 3) := by decide +kernel
theorem dLM_1270 : decode code 1270 = .ok (.iconst 1, 1) := by decide +kernel
theorem dLM_1271 : decode code 1271 = .ok (.goto 4, 3) := by decide +kernel
theorem dLM_1274 : decode code 1274 = .ok (.iconst 0, 1) := by decide +kernel
theorem dLM_1275 : decode code 1275 = .ok (.invokevirtual 196, 3) := by decide +kernel
theorem dLM_1278 : decode code 1278 = .ok (.aload_n 2, 1) := by decide +kernel
theorem dLM_1279 : decode code 1279 = .ok (.aload_n 0, 1) := by decide +kernel
theorem dLM_1280 : decode code 1280 = .ok (.iload 4, 2) := by decide +kernel
theorem dLM_1282 : decode code 1282 = .ok (.iconst 1, 1) := by decide +kernel
theorem dLM_1283 : decode code 1283 = .ok (.iadd, 1) := by decide +kernel
theorem dLM_1284 : decode code 1284 = .ok (.iaload, 1) := by decide +kernel
theorem dLM_1285 : decode code 1285 = .ok (.ifCond .eq 7, 3) := by decide +kernel
theorem dLM_1288 : decode code 1288 = .ok (.iconst 1, 1) := by decide +kernel
theorem dLM_1289 : decode code 1289 = .ok (.goto 4, 3) := by decide +kernel
theorem dLM_1292 : decode code 1292 = .ok (.iconst 0, 1) := by decide +kernel
theorem dLM_1293 : decode code 1293 = .ok (.invokevirtual 199, 3) := by decide +kernel
theorem dLM_1296 : decode code 1296 = .ok (.if_icmp .eq 1359, 3) := by decide +kernel
theorem dLM_1299 : decode code 1299 = .ok (.iconst 0, 1) := by decide +kernel
theorem dLM_1300 : decode code 1300 = .ok (.ireturn, 1) := by decide +kernel
theorem dLM_1301 : decode code 1301 = .ok (.aload_n 1, 1) := by decide +kernel
theorem dLM_1302 : decode code 1302 = .ok (.invokevirtual 200, 3) := by decide +kernel
theorem dLM_1305 : decode code 1305 = .ok (.aload_n 2, 1) := by decide +kernel
theorem dLM_1306 : decode code 1306 = .ok (.invokevirtual 203, 3) := by decide +kernel
theorem dLM_1309 : decode code 1309 = .ok (.if_icmp .eq 1346, 3) := by decide +kernel
theorem dLM_1312 : decode code 1312 = .ok (.iconst 0, 1) := by decide +kernel
theorem dLM_1313 : decode code 1313 = .ok (.ireturn, 1) := by decide +kernel
theorem dLM_1314 : decode code 1314 = .ok (.aload_n 1, 1) := by decide +kernel
theorem dLM_1315 : decode code 1315 = .ok (.aload_n 0, 1) := by decide +kernel
theorem dLM_1316 : decode code 1316 = .ok (.iload 4, 2) := by decide +kernel
theorem dLM_1318 : decode code 1318 = .ok (.iconst 1, 1) := by decide +kernel
theorem dLM_1319 : decode code 1319 = .ok (.iadd, 1) := by decide +kernel
theorem dLM_1320 : decode code 1320 = .ok (.iaload, 1) := by decide +kernel
theorem dLM_1321 : decode code 1321 = .ok (.aload_n 3, 1) := by decide +kernel
theorem dLM_1322 : decode code 1322 = .ok (.invokestatic 204, 3) := by decide +kernel
theorem dLM_1325 : decode code 1325 = .ok (.istore 5, 2) := by decide +kernel
theorem dLM_1327 : decode code 1327 = .ok (.aload_n 2, 1) := by decide +kernel
theorem dLM_1328 : decode code 1328 = .ok (.aload_n 0, 1) := by decide +kernel
theorem dLM_1329 : decode code 1329 = .ok (.iload 4, 2) := by decide +kernel
theorem dLM_1331 : decode code 1331 = .ok (.iconst 1, 1) := by decide +kernel
theorem dLM_1332 : decode code 1332 = .ok (.iadd, 1) := by decide +kernel
theorem dLM_1333 : decode code 1333 = .ok (.iaload, 1) := by decide +kernel
theorem dLM_1334 : decode code 1334 = .ok (.invokevirtual 206, 3) := by decide +kernel
theorem dLM_1337 : decode code 1337 = .ok (.istore 6, 2) := by decide +kernel
theorem dLM_1339 : decode code 1339 = .ok (.aload_n 2, 1) := by decide +kernel
theorem dLM_1340 : decode code 1340 = .ok (.invokevirtual 130, 3) := by decide +kernel
theorem dLM_1343 : decode code 1343 = .ok (.iload 5, 2) := by decide +kernel
theorem dLM_1345 : decode code 1345 = .ok (.if_icmp .eq 5, 3) := by decide +kernel
theorem dLM_1348 : decode code 1348 = .ok (.iconst 0, 1) := by decide +kernel
theorem dLM_1349 : decode code 1349 = .ok (.ireturn, 1) := by decide +kernel
theorem dLM_1350 : decode code 1350 = .ok (.iload 5, 2) := by decide +kernel
theorem dLM_1352 : decode code 1352 = .ok (.ifCond .ne 15, 3) := by decide +kernel
theorem dLM_1355 : decode code 1355 = .ok (.aload_n 3, 1) := by decide +kernel
theorem dLM_1356 : decode code 1356 = .ok (.iconst 0, 1) := by decide +kernel
theorem dLM_1357 : decode code 1357 = .ok (.laload, 1) := by decide +kernel
theorem dLM_1358 : decode code 1358 = .ok (.iload 6, 2) := by decide +kernel
theorem dLM_1360 : decode code 1360 = .ok (.i2l, 1) := by decide +kernel
theorem dLM_1361 : decode code 1361 = .ok (.lcmp, 1) := by decide +kernel
theorem dLM_1362 : decode code 1362 = .ok (.ifCond .eq 5, 3) := by decide +kernel
theorem dLM_1365 : decode code 1365 = .ok (.iconst 0, 1) := by decide +kernel
theorem dLM_1366 : decode code 1366 = .ok (.ireturn, 1) := by decide +kernel
theorem dLM_1367 : decode code 1367 = .ok (.goto 1288, 3) := by decide +kernel
theorem dLM_1370 : decode code 1370 = .ok (.aload_n 1, 1) := by decide +kernel
theorem dLM_1371 : decode code 1371 = .ok (.aload_n 0, 1) := by decide +kernel
theorem dLM_1372 : decode code 1372 = .ok (.iload 4, 2) := by decide +kernel
theorem dLM_1374 : decode code 1374 = .ok (.iconst 1, 1) := by decide +kernel
theorem dLM_1375 : decode code 1375 = .ok (.iadd, 1) := by decide +kernel
theorem dLM_1376 : decode code 1376 = .ok (.iaload, 1) := by decide +kernel
theorem dLM_1377 : decode code 1377 = .ok (.aload_n 0, 1) := by decide +kernel
theorem dLM_1378 : decode code 1378 = .ok (.iload 4, 2) := by decide +kernel
theorem dLM_1380 : decode code 1380 = .ok (.iconst 2, 1) := by decide +kernel
theorem dLM_1381 : decode code 1381 = .ok (.iadd, 1) := by decide +kernel
theorem dLM_1382 : decode code 1382 = .ok (.iaload, 1) := by decide +kernel
theorem dLM_1383 : decode code 1383 = .ok (.ifCond .eq 7, 3) := by decide +kernel
theorem dLM_1386 : decode code 1386 = .ok (.iconst 1, 1) := by decide +kernel
theorem dLM_1387 : decode code 1387 = .ok (.goto 4, 3) := by decide +kernel
theorem dLM_1390 : decode code 1390 = .ok (.iconst 0, 1) := by decide +kernel
theorem dLM_1391 : decode code 1391 = .ok (.aload_n 3, 1) := by decide +kernel
theorem dLM_1392 : decode code 1392 = .ok (.invokestatic 207, 3) := by decide +kernel
theorem dLM_1395 : decode code 1395 = .ok (.istore 5, 2) := by decide +kernel
theorem dLM_1397 : decode code 1397 = .ok (.aload_n 2, 1) := by decide +kernel
theorem dLM_1398 : decode code 1398 = .ok (.aload_n 0, 1) := by decide +kernel
theorem dLM_1399 : decode code 1399 = .ok (.iload 4, 2) := by decide +kernel
theorem dLM_1401 : decode code 1401 = .ok (.iconst 1, 1) := by decide +kernel
theorem dLM_1402 : decode code 1402 = .ok (.iadd, 1) := by decide +kernel
theorem dLM_1403 : decode code 1403 = .ok (.iaload, 1) := by decide +kernel
theorem dLM_1404 : decode code 1404 = .ok (.aload_n 0, 1) := by decide +kernel
theorem dLM_1405 : decode code 1405 = .ok (.iload 4, 2) := by decide +kernel
theorem dLM_1407 : decode code 1407 = .ok (.iconst 2, 1) := by decide +kernel
theorem dLM_1408 : decode code 1408 = .ok (.iadd, 1) := by decide +kernel
theorem dLM_1409 : decode code 1409 = .ok (.iaload, 1) := by decide +kernel
theorem dLM_1410 : decode code 1410 = .ok (.ifCond .eq 7, 3) := by decide +kernel
theorem dLM_1413 : decode code 1413 = .ok (.iconst 1, 1) := by decide +kernel
theorem dLM_1414 : decode code 1414 = .ok (.goto 4, 3) := by decide +kernel
theorem dLM_1417 : decode code 1417 = .ok (.iconst 0, 1) := by decide +kernel
theorem dLM_1418 : decode code 1418 = .ok (.invokevirtual 210, 3) := by decide +kernel
theorem dLM_1421 : decode code 1421 = .ok (.istore 6, 2) := by decide +kernel
theorem dLM_1423 : decode code 1423 = .ok (.aload_n 2, 1) := by decide +kernel
theorem dLM_1424 : decode code 1424 = .ok (.invokevirtual 130, 3) := by decide +kernel
theorem dLM_1427 : decode code 1427 = .ok (.iload 5, 2) := by decide +kernel
theorem dLM_1429 : decode code 1429 = .ok (.if_icmp .eq 5, 3) := by decide +kernel
theorem dLM_1432 : decode code 1432 = .ok (.iconst 0, 1) := by decide +kernel
theorem dLM_1433 : decode code 1433 = .ok (.ireturn, 1) := by decide +kernel
theorem dLM_1434 : decode code 1434 = .ok (.iload 5, 2) := by decide +kernel
theorem dLM_1436 : decode code 1436 = .ok (.ifCond .ne 15, 3) := by decide +kernel
theorem dLM_1439 : decode code 1439 = .ok (.aload_n 3, 1) := by decide +kernel
theorem dLM_1440 : decode code 1440 = .ok (.iconst 0, 1) := by decide +kernel
theorem dLM_1441 : decode code 1441 = .ok (.laload, 1) := by decide +kernel
theorem dLM_1442 : decode code 1442 = .ok (.iload 6, 2) := by decide +kernel
theorem dLM_1444 : decode code 1444 = .ok (.i2l, 1) := by decide +kernel
theorem dLM_1445 : decode code 1445 = .ok (.lcmp, 1) := by decide +kernel
theorem dLM_1446 : decode code 1446 = .ok (.ifCond .eq 5, 3) := by decide +kernel
theorem dLM_1449 : decode code 1449 = .ok (.iconst 0, 1) := by decide +kernel
theorem dLM_1450 : decode code 1450 = .ok (.ireturn, 1) := by decide +kernel
theorem dLM_1451 : decode code 1451 = .ok (.goto 1204, 3) := by decide +kernel
theorem dLM_1454 : decode code 1454 = .ok (.aload_n 1, 1) := by decide +kernel
theorem dLM_1455 : decode code 1455 = .ok (.aload_n 0, 1) := by decide +kernel
theorem dLM_1456 : decode code 1456 = .ok (.iload 4, 2) := by decide +kernel
theorem dLM_1458 : decode code 1458 = .ok (.iconst 1, 1) := by decide +kernel
theorem dLM_1459 : decode code 1459 = .ok (.iadd, 1) := by decide +kernel
theorem dLM_1460 : decode code 1460 = .ok (.iaload, 1) := by decide +kernel
theorem dLM_1461 : decode code 1461 = .ok (.invokevirtual 211, 3) := by decide +kernel
theorem dLM_1464 : decode code 1464 = .ok (.aload_n 2, 1) := by decide +kernel
theorem dLM_1465 : decode code 1465 = .ok (.aload_n 0, 1) := by decide +kernel
theorem dLM_1466 : decode code 1466 = .ok (.iload 4, 2) := by decide +kernel
theorem dLM_1468 : decode code 1468 = .ok (.iconst 1, 1) := by decide +kernel
theorem dLM_1469 : decode code 1469 = .ok (.iadd, 1) := by decide +kernel
theorem dLM_1470 : decode code 1470 = .ok (.iaload, 1) := by decide +kernel
theorem dLM_1471 : decode code 1471 = .ok (.invokevirtual 214, 3) := by decide +kernel
theorem dLM_1474 : decode code 1474 = .ok (.if_icmp .eq 1181, 3) := by decide +kernel
theorem dLM_1477 : decode code 1477 = .ok (.iconst 0, 1) := by decide +kernel
theorem dLM_1478 : decode code 1478 = .ok (.ireturn, 1) := by decide +kernel
theorem dLM_1479 : decode code 1479 = .ok (.aload_n 1, 1) := by decide +kernel
theorem dLM_1480 : decode code 1480 = .ok (.invokevirtual 215, 3) := by decide +kernel
theorem dLM_1483 : decode code 1483 = .ok (.aload_n 2, 1) := by decide +kernel
theorem dLM_1484 : decode code 1484 = .ok (.invokevirtual 218, 3) := by decide +kernel
theorem dLM_1487 : decode code 1487 = .ok (.if_icmp .eq 1168, 3) := by decide +kernel
theorem dLM_1490 : decode code 1490 = .ok (.iconst 0, 1) := by decide +kernel
theorem dLM_1491 : decode code 1491 = .ok (.ireturn, 1) := by decide +kernel
theorem dLM_1492 : decode code 1492 = .ok (.aload_n 1, 1) := by decide +kernel
theorem dLM_1493 : decode code 1493 = .ok (.aload_n 0, 1) := by decide +kernel
theorem dLM_1494 : decode code 1494 = .ok (.iload 4, 2) := by decide +kernel
theorem dLM_1496 : decode code 1496 = .ok (.iconst 1, 1) := by decide +kernel
theorem dLM_1497 : decode code 1497 = .ok (.iadd, 1) := by decide +kernel
theorem dLM_1498 : decode code 1498 = .ok (.iaload, 1) := by decide +kernel
theorem dLM_1499 : decode code 1499 = .ok (.aload_n 0, 1) := by decide +kernel
theorem dLM_1500 : decode code 1500 = .ok (.iload 4, 2) := by decide +kernel
theorem dLM_1502 : decode code 1502 = .ok (.iconst 2, 1) := by decide +kernel
theorem dLM_1503 : decode code 1503 = .ok (.iadd, 1) := by decide +kernel
theorem dLM_1504 : decode code 1504 = .ok (.iaload, 1) := by decide +kernel
theorem dLM_1505 : decode code 1505 = .ok (.aload_n 3, 1) := by decide +kernel
theorem dLM_1506 : decode code 1506 = .ok (.invokestatic 219, 3) := by decide +kernel
theorem dLM_1509 : decode code 1509 = .ok (.istore 5, 2) := by decide +kernel
theorem dLM_1511 : decode code 1511 = .ok (.aload_n 2, 1) := by decide +kernel
theorem dLM_1512 : decode code 1512 = .ok (.aload_n 0, 1) := by decide +kernel
theorem dLM_1513 : decode code 1513 = .ok (.iload 4, 2) := by decide +kernel
theorem dLM_1515 : decode code 1515 = .ok (.iconst 1, 1) := by decide +kernel
theorem dLM_1516 : decode code 1516 = .ok (.iadd, 1) := by decide +kernel
theorem dLM_1517 : decode code 1517 = .ok (.iaload, 1) := by decide +kernel
theorem dLM_1518 : decode code 1518 = .ok (.aload_n 0, 1) := by decide +kernel
theorem dLM_1519 : decode code 1519 = .ok (.iload 4, 2) := by decide +kernel
theorem dLM_1521 : decode code 1521 = .ok (.iconst 2, 1) := by decide +kernel
theorem dLM_1522 : decode code 1522 = .ok (.iadd, 1) := by decide +kernel
theorem dLM_1523 : decode code 1523 = .ok (.iaload, 1) := by decide +kernel
theorem dLM_1524 : decode code 1524 = .ok (.invokevirtual 221, 3) := by decide +kernel
theorem dLM_1527 : decode code 1527 = .ok (.istore 6, 2) := by decide +kernel
theorem dLM_1529 : decode code 1529 = .ok (.aload_n 2, 1) := by decide +kernel
theorem dLM_1530 : decode code 1530 = .ok (.invokevirtual 130, 3) := by decide +kernel
theorem dLM_1533 : decode code 1533 = .ok (.iload 5, 2) := by decide +kernel
theorem dLM_1535 : decode code 1535 = .ok (.if_icmp .eq 5, 3) := by decide +kernel
theorem dLM_1538 : decode code 1538 = .ok (.iconst 0, 1) := by decide +kernel
theorem dLM_1539 : decode code 1539 = .ok (.ireturn, 1) := by decide +kernel
theorem dLM_1540 : decode code 1540 = .ok (.iload 5, 2) := by decide +kernel
theorem dLM_1542 : decode code 1542 = .ok (.ifCond .ne 15, 3) := by decide +kernel
theorem dLM_1545 : decode code 1545 = .ok (.aload_n 3, 1) := by decide +kernel
theorem dLM_1546 : decode code 1546 = .ok (.iconst 0, 1) := by decide +kernel
theorem dLM_1547 : decode code 1547 = .ok (.laload, 1) := by decide +kernel
theorem dLM_1548 : decode code 1548 = .ok (.iload 6, 2) := by decide +kernel
theorem dLM_1550 : decode code 1550 = .ok (.i2l, 1) := by decide +kernel
theorem dLM_1551 : decode code 1551 = .ok (.lcmp, 1) := by decide +kernel
theorem dLM_1552 : decode code 1552 = .ok (.ifCond .eq 5, 3) := by decide +kernel
theorem dLM_1555 : decode code 1555 = .ok (.iconst 0, 1) := by decide +kernel
theorem dLM_1556 : decode code 1556 = .ok (.ireturn, 1) := by decide +kernel
theorem dLM_1557 : decode code 1557 = .ok (.goto 1098, 3) := by decide +kernel
theorem dLM_1560 : decode code 1560 = .ok (.aload_n 1, 1) := by decide +kernel
theorem dLM_1561 : decode code 1561 = .ok (.aload_n 0, 1) := by decide +kernel
theorem dLM_1562 : decode code 1562 = .ok (.iload 4, 2) := by decide +kernel
theorem dLM_1564 : decode code 1564 = .ok (.iconst 1, 1) := by decide +kernel
theorem dLM_1565 : decode code 1565 = .ok (.iadd, 1) := by decide +kernel
theorem dLM_1566 : decode code 1566 = .ok (.iaload, 1) := by decide +kernel
theorem dLM_1567 : decode code 1567 = .ok (.aload_n 0, 1) := by decide +kernel
theorem dLM_1568 : decode code 1568 = .ok (.iload 4, 2) := by decide +kernel
theorem dLM_1570 : decode code 1570 = .ok (.iconst 2, 1) := by decide +kernel
theorem dLM_1571 : decode code 1571 = .ok (.iadd, 1) := by decide +kernel
theorem dLM_1572 : decode code 1572 = .ok (.iaload, 1) := by decide +kernel
theorem dLM_1573 : decode code 1573 = .ok (.aload_n 0, 1) := by decide +kernel
theorem dLM_1574 : decode code 1574 = .ok (.iload 4, 2) := by decide +kernel
theorem dLM_1576 : decode code 1576 = .ok (.iconst 3, 1) := by decide +kernel
theorem dLM_1577 : decode code 1577 = .ok (.iadd, 1) := by decide +kernel
theorem dLM_1578 : decode code 1578 = .ok (.iaload, 1) := by decide +kernel
theorem dLM_1579 : decode code 1579 = .ok (.aload_n 3, 1) := by decide +kernel
theorem dLM_1580 : decode code 1580 = .ok (.invokestatic 222, 3) := by decide +kernel
theorem dLM_1583 : decode code 1583 = .ok (.istore 5, 2) := by decide +kernel
theorem dLM_1585 : decode code 1585 = .ok (.aload_n 2, 1) := by decide +kernel
theorem dLM_1586 : decode code 1586 = .ok (.aload_n 0, 1) := by decide +kernel
theorem dLM_1587 : decode code 1587 = .ok (.iload 4, 2) := by decide +kernel
theorem dLM_1589 : decode code 1589 = .ok (.iconst 1, 1) := by decide +kernel
theorem dLM_1590 : decode code 1590 = .ok (.iadd, 1) := by decide +kernel
theorem dLM_1591 : decode code 1591 = .ok (.iaload, 1) := by decide +kernel
theorem dLM_1592 : decode code 1592 = .ok (.aload_n 0, 1) := by decide +kernel
theorem dLM_1593 : decode code 1593 = .ok (.iload 4, 2) := by decide +kernel
theorem dLM_1595 : decode code 1595 = .ok (.iconst 2, 1) := by decide +kernel
theorem dLM_1596 : decode code 1596 = .ok (.iadd, 1) := by decide +kernel
theorem dLM_1597 : decode code 1597 = .ok (.iaload, 1) := by decide +kernel
theorem dLM_1598 : decode code 1598 = .ok (.aload_n 0, 1) := by decide +kernel
theorem dLM_1599 : decode code 1599 = .ok (.iload 4, 2) := by decide +kernel
theorem dLM_1601 : decode code 1601 = .ok (.iconst 3, 1) := by decide +kernel
theorem dLM_1602 : decode code 1602 = .ok (.iadd, 1) := by decide +kernel
theorem dLM_1603 : decode code 1603 = .ok (.iaload, 1) := by decide +kernel
theorem dLM_1604 : decode code 1604 = .ok (.invokevirtual 224, 3) := by decide +kernel
theorem dLM_1607 : decode code 1607 = .ok (.istore 6, 2) := by decide +kernel
theorem dLM_1609 : decode code 1609 = .ok (.aload_n 2, 1) := by decide +kernel
theorem dLM_1610 : decode code 1610 = .ok (.invokevirtual 130, 3) := by decide +kernel
theorem dLM_1613 : decode code 1613 = .ok (.iload 5, 2) := by decide +kernel
theorem dLM_1615 : decode code 1615 = .ok (.if_icmp .eq 5, 3) := by decide +kernel
theorem dLM_1618 : decode code 1618 = .ok (.iconst 0, 1) := by decide +kernel
theorem dLM_1619 : decode code 1619 = .ok (.ireturn, 1) := by decide +kernel
theorem dLM_1620 : decode code 1620 = .ok (.iload 5, 2) := by decide +kernel
theorem dLM_1622 : decode code 1622 = .ok (.ifCond .ne 15, 3) := by decide +kernel
theorem dLM_1625 : decode code 1625 = .ok (.aload_n 3, 1) := by decide +kernel
theorem dLM_1626 : decode code 1626 = .ok (.iconst 0, 1) := by decide +kernel
theorem dLM_1627 : decode code 1627 = .ok (.laload, 1) := by decide +kernel
theorem dLM_1628 : decode code 1628 = .ok (.iload 6, 2) := by decide +kernel
theorem dLM_1630 : decode code 1630 = .ok (.i2l, 1) := by decide +kernel
theorem dLM_1631 : decode code 1631 = .ok (.lcmp, 1) := by decide +kernel
theorem dLM_1632 : decode code 1632 = .ok (.ifCond .eq 5, 3) := by decide +kernel
theorem dLM_1635 : decode code 1635 = .ok (.iconst 0, 1) := by decide +kernel
theorem dLM_1636 : decode code 1636 = .ok (.ireturn, 1) := by decide +kernel
theorem dLM_1637 : decode code 1637 = .ok (.goto 1018, 3) := by decide +kernel
theorem dLM_1640 : decode code 1640 = .ok (.aload_n 1, 1) := by decide +kernel
theorem dLM_1641 : decode code 1641 = .ok (.invokevirtual 225, 3) := by decide +kernel
theorem dLM_1644 : decode code 1644 = .ok (.aload_n 2, 1) := by decide +kernel
theorem dLM_1645 : decode code 1645 = .ok (.invokevirtual 228, 3) := by decide +kernel
theorem dLM_1648 : decode code 1648 = .ok (.if_icmp .eq 1007, 3) := by decide +kernel
theorem dLM_1651 : decode code 1651 = .ok (.iconst 0, 1) := by decide +kernel
theorem dLM_1652 : decode code 1652 = .ok (.ireturn, 1) := by decide +kernel
theorem dLM_1653 : decode code 1653 = .ok (.aload_n 1, 1) := by decide +kernel
theorem dLM_1654 : decode code 1654 = .ok (.invokevirtual 229, 3) := by decide +kernel
theorem dLM_1657 : decode code 1657 = .ok (.aload_n 2, 1) := by decide +kernel
theorem dLM_1658 : decode code 1658 = .ok (.invokevirtual 232, 3) := by decide +kernel
theorem dLM_1661 : decode code 1661 = .ok (.if_icmp .eq 994, 3) := by decide +kernel
theorem dLM_1664 : decode code 1664 = .ok (.iconst 0, 1) := by decide +kernel
theorem dLM_1665 : decode code 1665 = .ok (.ireturn, 1) := by decide +kernel
theorem dLM_1666 : decode code 1666 = .ok (.aload_n 1, 1) := by decide +kernel
theorem dLM_1667 : decode code 1667 = .ok (.aload_n 0, 1) := by decide +kernel
theorem dLM_1668 : decode code 1668 = .ok (.iload 4, 2) := by decide +kernel
theorem dLM_1670 : decode code 1670 = .ok (.iconst 1, 1) := by decide +kernel
theorem dLM_1671 : decode code 1671 = .ok (.iadd, 1) := by decide +kernel
theorem dLM_1672 : decode code 1672 = .ok (.iaload, 1) := by decide +kernel
theorem dLM_1673 : decode code 1673 = .ok (.aload_n 3, 1) := by decide +kernel
theorem dLM_1674 : decode code 1674 = .ok (.invokestatic 233, 3) := by decide +kernel
theorem dLM_1677 : decode code 1677 = .ok (.istore 5, 2) := by decide +kernel
theorem dLM_1679 : decode code 1679 = .ok (.aload_n 2, 1) := by decide +kernel
theorem dLM_1680 : decode code 1680 = .ok (.aload_n 0, 1) := by decide +kernel
theorem dLM_1681 : decode code 1681 = .ok (.iload 4, 2) := by decide +kernel
theorem dLM_1683 : decode code 1683 = .ok (.iconst 1, 1) := by decide +kernel
theorem dLM_1684 : decode code 1684 = .ok (.iadd, 1) := by decide +kernel
theorem dLM_1685 : decode code 1685 = .ok (.iaload, 1) := by decide +kernel
theorem dLM_1686 : decode code 1686 = .ok (.invokevirtual 235, 3) := by decide +kernel
theorem dLM_1689 : decode code 1689 = .ok (.istore 6, 2) := by decide +kernel
theorem dLM_1691 : decode code 1691 = .ok (.aload_n 2, 1) := by decide +kernel
theorem dLM_1692 : decode code 1692 = .ok (.invokevirtual 130, 3) := by decide +kernel
theorem dLM_1695 : decode code 1695 = .ok (.iload 5, 2) := by decide +kernel
theorem dLM_1697 : decode code 1697 = .ok (.if_icmp .eq 5, 3) := by decide +kernel
theorem dLM_1700 : decode code 1700 = .ok (.iconst 0, 1) := by decide +kernel
theorem dLM_1701 : decode code 1701 = .ok (.ireturn, 1) := by decide +kernel
theorem dLM_1702 : decode code 1702 = .ok (.iload 5, 2) := by decide +kernel
theorem dLM_1704 : decode code 1704 = .ok (.ifCond .ne 15, 3) := by decide +kernel
theorem dLM_1707 : decode code 1707 = .ok (.aload_n 3, 1) := by decide +kernel
theorem dLM_1708 : decode code 1708 = .ok (.iconst 0, 1) := by decide +kernel
theorem dLM_1709 : decode code 1709 = .ok (.laload, 1) := by decide +kernel
theorem dLM_1710 : decode code 1710 = .ok (.iload 6, 2) := by decide +kernel
theorem dLM_1712 : decode code 1712 = .ok (.i2l, 1) := by decide +kernel
theorem dLM_1713 : decode code 1713 = .ok (.lcmp, 1) := by decide +kernel
theorem dLM_1714 : decode code 1714 = .ok (.ifCond .eq 5, 3) := by decide +kernel
theorem dLM_1717 : decode code 1717 = .ok (.iconst 0, 1) := by decide +kernel
theorem dLM_1718 : decode code 1718 = .ok (.ireturn, 1) := by decide +kernel
theorem dLM_1719 : decode code 1719 = .ok (.goto 936, 3) := by decide +kernel
theorem dLM_1722 : decode code 1722 = .ok (.aload_n 1, 1) := by decide +kernel
theorem dLM_1723 : decode code 1723 = .ok (.aload_n 0, 1) := by decide +kernel
theorem dLM_1724 : decode code 1724 = .ok (.iload 4, 2) := by decide +kernel
theorem dLM_1726 : decode code 1726 = .ok (.iconst 1, 1) := by decide +kernel
theorem dLM_1727 : decode code 1727 = .ok (.iadd, 1) := by decide +kernel
theorem dLM_1728 : decode code 1728 = .ok (.iaload, 1) := by decide +kernel
theorem dLM_1729 : decode code 1729 = .ok (.aload_n 3, 1) := by decide +kernel
theorem dLM_1730 : decode code 1730 = .ok (.invokestatic 236, 3) := by decide +kernel
theorem dLM_1733 : decode code 1733 = .ok (.istore 5, 2) := by decide +kernel
theorem dLM_1735 : decode code 1735 = .ok (.aload_n 2, 1) := by decide +kernel
theorem dLM_1736 : decode code 1736 = .ok (.aload_n 0, 1) := by decide +kernel
theorem dLM_1737 : decode code 1737 = .ok (.iload 4, 2) := by decide +kernel
theorem dLM_1739 : decode code 1739 = .ok (.iconst 1, 1) := by decide +kernel
theorem dLM_1740 : decode code 1740 = .ok (.iadd, 1) := by decide +kernel
theorem dLM_1741 : decode code 1741 = .ok (.iaload, 1) := by decide +kernel
theorem dLM_1742 : decode code 1742 = .ok (.invokevirtual 238, 3) := by decide +kernel
theorem dLM_1745 : decode code 1745 = .ok (.istore 6, 2) := by decide +kernel
theorem dLM_1747 : decode code 1747 = .ok (.aload_n 2, 1) := by decide +kernel
theorem dLM_1748 : decode code 1748 = .ok (.invokevirtual 130, 3) := by decide +kernel
theorem dLM_1751 : decode code 1751 = .ok (.iload 5, 2) := by decide +kernel
theorem dLM_1753 : decode code 1753 = .ok (.if_icmp .eq 5, 3) := by decide +kernel
theorem dLM_1756 : decode code 1756 = .ok (.iconst 0, 1) := by decide +kernel
theorem dLM_1757 : decode code 1757 = .ok (.ireturn, 1) := by decide +kernel
theorem dLM_1758 : decode code 1758 = .ok (.iload 5, 2) := by decide +kernel
theorem dLM_1760 : decode code 1760 = .ok (.ifCond .ne 15, 3) := by decide +kernel
theorem dLM_1763 : decode code 1763 = .ok (.aload_n 3, 1) := by decide +kernel
theorem dLM_1764 : decode code 1764 = .ok (.iconst 0, 1) := by decide +kernel
theorem dLM_1765 : decode code 1765 = .ok (.laload, 1) := by decide +kernel
theorem dLM_1766 : decode code 1766 = .ok (.iload 6, 2) := by decide +kernel
theorem dLM_1768 : decode code 1768 = .ok (.i2l, 1) := by decide +kernel
theorem dLM_1769 : decode code 1769 = .ok (.lcmp, 1) := by decide +kernel
theorem dLM_1770 : decode code 1770 = .ok (.ifCond .eq 5, 3) := by decide +kernel
theorem dLM_1773 : decode code 1773 = .ok (.iconst 0, 1) := by decide +kernel
theorem dLM_1774 : decode code 1774 = .ok (.ireturn, 1) := by decide +kernel
theorem dLM_1775 : decode code 1775 = .ok (.goto 880, 3) := by decide +kernel
theorem dLM_1778 : decode code 1778 = .ok (.aload_n 1, 1) := by decide +kernel
theorem dLM_1779 : decode code 1779 = .ok (.aload_n 0, 1) := by decide +kernel
theorem dLM_1780 : decode code 1780 = .ok (.iload 4, 2) := by decide +kernel
theorem dLM_1782 : decode code 1782 = .ok (.iconst 1, 1) := by decide +kernel
theorem dLM_1783 : decode code 1783 = .ok (.iadd, 1) := by decide +kernel
theorem dLM_1784 : decode code 1784 = .ok (.iaload, 1) := by decide +kernel
theorem dLM_1785 : decode code 1785 = .ok (.aload_n 0, 1) := by decide +kernel
theorem dLM_1786 : decode code 1786 = .ok (.iload 4, 2) := by decide +kernel
theorem dLM_1788 : decode code 1788 = .ok (.iconst 2, 1) := by decide +kernel
theorem dLM_1789 : decode code 1789 = .ok (.iadd, 1) := by decide +kernel
theorem dLM_1790 : decode code 1790 = .ok (.iaload, 1) := by decide +kernel
theorem dLM_1791 : decode code 1791 = .ok (.aload_n 3, 1) := by decide +kernel
theorem dLM_1792 : decode code 1792 = .ok (.invokestatic 239, 3) := by decide +kernel
theorem dLM_1795 : decode code 1795 = .ok (.istore 5, 2) := by decide +kernel
theorem dLM_1797 : decode code 1797 = .ok (.aload_n 2, 1) := by decide +kernel
theorem dLM_1798 : decode code 1798 = .ok (.aload_n 0, 1) := by decide +kernel
theorem dLM_1799 : decode code 1799 = .ok (.iload 4, 2) := by decide +kernel
theorem dLM_1801 : decode code 1801 = .ok (.iconst 1, 1) := by decide +kernel
theorem dLM_1802 : decode code 1802 = .ok (.iadd, 1) := by decide +kernel
theorem dLM_1803 : decode code 1803 = .ok (.iaload, 1) := by decide +kernel
theorem dLM_1804 : decode code 1804 = .ok (.aload_n 0, 1) := by decide +kernel
theorem dLM_1805 : decode code 1805 = .ok (.iload 4, 2) := by decide +kernel
theorem dLM_1807 : decode code 1807 = .ok (.iconst 2, 1) := by decide +kernel
theorem dLM_1808 : decode code 1808 = .ok (.iadd, 1) := by decide +kernel
theorem dLM_1809 : decode code 1809 = .ok (.iaload, 1) := by decide +kernel
theorem dLM_1810 : decode code 1810 = .ok (.invokevirtual 241, 3) := by decide +kernel
theorem dLM_1813 : decode code 1813 = .ok (.istore 6, 2) := by decide +kernel
theorem dLM_1815 : decode code 1815 = .ok (.aload_n 2, 1) := by decide +kernel
theorem dLM_1816 : decode code 1816 = .ok (.invokevirtual 130, 3) := by decide +kernel
theorem dLM_1819 : decode code 1819 = .ok (.iload 5, 2) := by decide +kernel
theorem dLM_1821 : decode code 1821 = .ok (.if_icmp .eq 5, 3) := by decide +kernel
theorem dLM_1824 : decode code 1824 = .ok (.iconst 0, 1) := by decide +kernel
theorem dLM_1825 : decode code 1825 = .ok (.ireturn, 1) := by decide +kernel
theorem dLM_1826 : decode code 1826 = .ok (.iload 5, 2) := by decide +kernel
theorem dLM_1828 : decode code 1828 = .ok (.ifCond .ne 15, 3) := by decide +kernel
theorem dLM_1831 : decode code 1831 = .ok (.aload_n 3, 1) := by decide +kernel
theorem dLM_1832 : decode code 1832 = .ok (.iconst 0, 1) := by decide +kernel
theorem dLM_1833 : decode code 1833 = .ok (.laload, 1) := by decide +kernel
theorem dLM_1834 : decode code 1834 = .ok (.iload 6, 2) := by decide +kernel
theorem dLM_1836 : decode code 1836 = .ok (.i2l, 1) := by decide +kernel
theorem dLM_1837 : decode code 1837 = .ok (.lcmp, 1) := by decide +kernel
theorem dLM_1838 : decode code 1838 = .ok (.ifCond .eq 5, 3) := by decide +kernel
theorem dLM_1841 : decode code 1841 = .ok (.iconst 0, 1) := by decide +kernel
theorem dLM_1842 : decode code 1842 = .ok (.ireturn, 1) := by decide +kernel
theorem dLM_1843 : decode code 1843 = .ok (.goto 812, 3) := by decide +kernel
theorem dLM_1846 : decode code 1846 = .ok (.aload_n 1, 1) := by decide +kernel
theorem dLM_1847 : decode code 1847 = .ok (.aload_n 0, 1) := by decide +kernel
theorem dLM_1848 : decode code 1848 = .ok (.iload 4, 2) := by decide +kernel
theorem dLM_1850 : decode code 1850 = .ok (.iconst 1, 1) := by decide +kernel
theorem dLM_1851 : decode code 1851 = .ok (.iadd, 1) := by decide +kernel
theorem dLM_1852 : decode code 1852 = .ok (.iaload, 1) := by decide +kernel
theorem dLM_1853 : decode code 1853 = .ok (.aload_n 0, 1) := by decide +kernel
theorem dLM_1854 : decode code 1854 = .ok (.iload 4, 2) := by decide +kernel
theorem dLM_1856 : decode code 1856 = .ok (.iconst 2, 1) := by decide +kernel
theorem dLM_1857 : decode code 1857 = .ok (.iadd, 1) := by decide +kernel
theorem dLM_1858 : decode code 1858 = .ok (.iaload, 1) := by decide +kernel
theorem dLM_1859 : decode code 1859 = .ok (.aload_n 3, 1) := by decide +kernel
theorem dLM_1860 : decode code 1860 = .ok (.invokestatic 242, 3) := by decide +kernel
theorem dLM_1863 : decode code 1863 = .ok (.istore 5, 2) := by decide +kernel
theorem dLM_1865 : decode code 1865 = .ok (.aload_n 2, 1) := by decide +kernel
theorem dLM_1866 : decode code 1866 = .ok (.aload_n 0, 1) := by decide +kernel
theorem dLM_1867 : decode code 1867 = .ok (.iload 4, 2) := by decide +kernel
theorem dLM_1869 : decode code 1869 = .ok (.iconst 1, 1) := by decide +kernel
theorem dLM_1870 : decode code 1870 = .ok (.iadd, 1) := by decide +kernel
theorem dLM_1871 : decode code 1871 = .ok (.iaload, 1) := by decide +kernel
theorem dLM_1872 : decode code 1872 = .ok (.aload_n 0, 1) := by decide +kernel
theorem dLM_1873 : decode code 1873 = .ok (.iload 4, 2) := by decide +kernel
theorem dLM_1875 : decode code 1875 = .ok (.iconst 2, 1) := by decide +kernel
theorem dLM_1876 : decode code 1876 = .ok (.iadd, 1) := by decide +kernel
theorem dLM_1877 : decode code 1877 = .ok (.iaload, 1) := by decide +kernel
theorem dLM_1878 : decode code 1878 = .ok (.invokevirtual 244, 3) := by decide +kernel
theorem dLM_1881 : decode code 1881 = .ok (.istore 6, 2) := by decide +kernel
theorem dLM_1883 : decode code 1883 = .ok (.aload_n 2, 1) := by decide +kernel
theorem dLM_1884 : decode code 1884 = .ok (.invokevirtual 130, 3) := by decide +kernel
theorem dLM_1887 : decode code 1887 = .ok (.iload 5, 2) := by decide +kernel
theorem dLM_1889 : decode code 1889 = .ok (.if_icmp .eq 5, 3) := by decide +kernel
theorem dLM_1892 : decode code 1892 = .ok (.iconst 0, 1) := by decide +kernel
theorem dLM_1893 : decode code 1893 = .ok (.ireturn, 1) := by decide +kernel
theorem dLM_1894 : decode code 1894 = .ok (.iload 5, 2) := by decide +kernel
theorem dLM_1896 : decode code 1896 = .ok (.ifCond .ne 15, 3) := by decide +kernel
theorem dLM_1899 : decode code 1899 = .ok (.aload_n 3, 1) := by decide +kernel
theorem dLM_1900 : decode code 1900 = .ok (.iconst 0, 1) := by decide +kernel
theorem dLM_1901 : decode code 1901 = .ok (.laload, 1) := by decide +kernel
theorem dLM_1902 : decode code 1902 = .ok (.iload 6, 2) := by decide +kernel
theorem dLM_1904 : decode code 1904 = .ok (.i2l, 1) := by decide +kernel
theorem dLM_1905 : decode code 1905 = .ok (.lcmp, 1) := by decide +kernel
theorem dLM_1906 : decode code 1906 = .ok (.ifCond .eq 5, 3) := by decide +kernel
theorem dLM_1909 : decode code 1909 = .ok (.iconst 0, 1) := by decide +kernel
theorem dLM_1910 : decode code 1910 = .ok (.ireturn, 1) := by decide +kernel
theorem dLM_1911 : decode code 1911 = .ok (.goto 744, 3) := by decide +kernel
theorem dLM_1914 : decode code 1914 = .ok (.aload_n 1, 1) := by decide +kernel
theorem dLM_1915 : decode code 1915 = .ok (.aload_n 0, 1) := by decide +kernel
theorem dLM_1916 : decode code 1916 = .ok (.iload 4, 2) := by decide +kernel
theorem dLM_1918 : decode code 1918 = .ok (.iconst 1, 1) := by decide +kernel
theorem dLM_1919 : decode code 1919 = .ok (.iadd, 1) := by decide +kernel
theorem dLM_1920 : decode code 1920 = .ok (.iaload, 1) := by decide +kernel
theorem dLM_1921 : decode code 1921 = .ok (.aload_n 3, 1) := by decide +kernel
theorem dLM_1922 : decode code 1922 = .ok (.invokestatic 245, 3) := by decide +kernel
theorem dLM_1925 : decode code 1925 = .ok (.istore 5, 2) := by decide +kernel
theorem dLM_1927 : decode code 1927 = .ok (.aload_n 2, 1) := by decide +kernel
theorem dLM_1928 : decode code 1928 = .ok (.aload_n 0, 1) := by decide +kernel
theorem dLM_1929 : decode code 1929 = .ok (.iload 4, 2) := by decide +kernel
theorem dLM_1931 : decode code 1931 = .ok (.iconst 1, 1) := by decide +kernel
theorem dLM_1932 : decode code 1932 = .ok (.iadd, 1) := by decide +kernel
theorem dLM_1933 : decode code 1933 = .ok (.iaload, 1) := by decide +kernel
theorem dLM_1934 : decode code 1934 = .ok (.invokevirtual 247, 3) := by decide +kernel
theorem dLM_1937 : decode code 1937 = .ok (.istore 6, 2) := by decide +kernel
theorem dLM_1939 : decode code 1939 = .ok (.aload_n 2, 1) := by decide +kernel
theorem dLM_1940 : decode code 1940 = .ok (.invokevirtual 130, 3) := by decide +kernel
theorem dLM_1943 : decode code 1943 = .ok (.iload 5, 2) := by decide +kernel
theorem dLM_1945 : decode code 1945 = .ok (.if_icmp .eq 5, 3) := by decide +kernel
theorem dLM_1948 : decode code 1948 = .ok (.iconst 0, 1) := by decide +kernel
theorem dLM_1949 : decode code 1949 = .ok (.ireturn, 1) := by decide +kernel
theorem dLM_1950 : decode code 1950 = .ok (.iload 5, 2) := by decide +kernel
theorem dLM_1952 : decode code 1952 = .ok (.ifCond .ne 15, 3) := by decide +kernel
theorem dLM_1955 : decode code 1955 = .ok (.aload_n 3, 1) := by decide +kernel
theorem dLM_1956 : decode code 1956 = .ok (.iconst 0, 1) := by decide +kernel
theorem dLM_1957 : decode code 1957 = .ok (.laload, 1) := by decide +kernel
theorem dLM_1958 : decode code 1958 = .ok (.iload 6, 2) := by decide +kernel
theorem dLM_1960 : decode code 1960 = .ok (.i2l, 1) := by decide +kernel
theorem dLM_1961 : decode code 1961 = .ok (.lcmp, 1) := by decide +kernel
theorem dLM_1962 : decode code 1962 = .ok (.ifCond .eq 5, 3) := by decide +kernel
theorem dLM_1965 : decode code 1965 = .ok (.iconst 0, 1) := by decide +kernel
theorem dLM_1966 : decode code 1966 = .ok (.ireturn, 1) := by decide +kernel
theorem dLM_1967 : decode code 1967 = .ok (.goto 688, 3) := by decide +kernel
theorem dLM_1970 : decode code 1970 = .ok (.aload_n 1, 1) := by decide +kernel
theorem dLM_1971 : decode code 1971 = .ok (.aload_n 0, 1) := by decide +kernel
theorem dLM_1972 : decode code 1972 = .ok (.iload 4, 2) := by decide +kernel
theorem dLM_1974 : decode code 1974 = .ok (.iconst 1, 1) := by decide +kernel
theorem dLM_1975 : decode code 1975 = .ok (.iadd, 1) := by decide +kernel
theorem dLM_1976 : decode code 1976 = .ok (.iaload, 1) := by decide +kernel
theorem dLM_1977 : decode code 1977 = .ok (.aload_n 3, 1) := by decide +kernel
theorem dLM_1978 : decode code 1978 = .ok (.invokestatic 248, 3) := by decide +kernel
theorem dLM_1981 : decode code 1981 = .ok (.istore 5, 2) := by decide +kernel
theorem dLM_1983 : decode code 1983 = .ok (.aload_n 2, 1) := by decide +kernel
theorem dLM_1984 : decode code 1984 = .ok (.aload_n 0, 1) := by decide +kernel
theorem dLM_1985 : decode code 1985 = .ok (.iload 4, 2) := by decide +kernel
theorem dLM_1987 : decode code 1987 = .ok (.iconst 1, 1) := by decide +kernel
theorem dLM_1988 : decode code 1988 = .ok (.iadd, 1) := by decide +kernel
theorem dLM_1989 : decode code 1989 = .ok (.iaload, 1) := by decide +kernel
theorem dLM_1990 : decode code 1990 = .ok (.invokevirtual 250, 3) := by decide +kernel
theorem dLM_1993 : decode code 1993 = .ok (.istore 6, 2) := by decide +kernel
theorem dLM_1995 : decode code 1995 = .ok (.aload_n 2, 1) := by decide +kernel
theorem dLM_1996 : decode code 1996 = .ok (.invokevirtual 130, 3) := by decide +kernel
theorem dLM_1999 : decode code 1999 = .ok (.iload 5, 2) := by decide +kernel
theorem dLM_2001 : decode code 2001 = .ok (.if_icmp .eq 5, 3) := by decide +kernel
theorem dLM_2004 : decode code 2004 = .ok (.iconst 0, 1) := by decide +kernel
theorem dLM_2005 : decode code 2005 = .ok (.ireturn, 1) := by decide +kernel
theorem dLM_2006 : decode code 2006 = .ok (.iload 5, 2) := by decide +kernel
theorem dLM_2008 : decode code 2008 = .ok (.ifCond .ne 15, 3) := by decide +kernel
theorem dLM_2011 : decode code 2011 = .ok (.aload_n 3, 1) := by decide +kernel
theorem dLM_2012 : decode code 2012 = .ok (.iconst 0, 1) := by decide +kernel
theorem dLM_2013 : decode code 2013 = .ok (.laload, 1) := by decide +kernel
theorem dLM_2014 : decode code 2014 = .ok (.iload 6, 2) := by decide +kernel
theorem dLM_2016 : decode code 2016 = .ok (.i2l, 1) := by decide +kernel
theorem dLM_2017 : decode code 2017 = .ok (.lcmp, 1) := by decide +kernel
theorem dLM_2018 : decode code 2018 = .ok (.ifCond .eq 5, 3) := by decide +kernel
theorem dLM_2021 : decode code 2021 = .ok (.iconst 0, 1) := by decide +kernel
theorem dLM_2022 : decode code 2022 = .ok (.ireturn, 1) := by decide +kernel
theorem dLM_2023 : decode code 2023 = .ok (.goto 632, 3) := by decide +kernel
theorem dLM_2026 : decode code 2026 = .ok (.aload_n 1, 1) := by decide +kernel
theorem dLM_2027 : decode code 2027 = .ok (.aload_n 0, 1) := by decide +kernel
theorem dLM_2028 : decode code 2028 = .ok (.iload 4, 2) := by decide +kernel
theorem dLM_2030 : decode code 2030 = .ok (.iconst 1, 1) := by decide +kernel
theorem dLM_2031 : decode code 2031 = .ok (.iadd, 1) := by decide +kernel
theorem dLM_2032 : decode code 2032 = .ok (.iaload, 1) := by decide +kernel
theorem dLM_2033 : decode code 2033 = .ok (.ifCond .eq 7, 3) := by decide +kernel
theorem dLM_2036 : decode code 2036 = .ok (.iconst 1, 1) := by decide +kernel
theorem dLM_2037 : decode code 2037 = .ok (.goto 4, 3) := by decide +kernel
theorem dLM_2040 : decode code 2040 = .ok (.iconst 0, 1) := by decide +kernel
theorem dLM_2041 : decode code 2041 = .ok (.invokevirtual 251, 3) := by decide +kernel
theorem dLM_2044 : decode code 2044 = .ok (.aload_n 2, 1) := by decide +kernel
theorem dLM_2045 : decode code 2045 = .ok (.aload_n 0, 1) := by decide +kernel
theorem dLM_2046 : decode code 2046 = .ok (.iload 4, 2) := by decide +kernel
theorem dLM_2048 : decode code 2048 = .ok (.iconst 1, 1) := by decide +kernel
theorem dLM_2049 : decode code 2049 = .ok (.iadd, 1) := by decide +kernel
theorem dLM_2050 : decode code 2050 = .ok (.iaload, 1) := by decide +kernel
theorem dLM_2051 : decode code 2051 = .ok (.ifCond .eq 7, 3) := by decide +kernel
theorem dLM_2054 : decode code 2054 = .ok (.iconst 1, 1) := by decide +kernel
theorem dLM_2055 : decode code 2055 = .ok (.goto 4, 3) := by decide +kernel
theorem dLM_2058 : decode code 2058 = .ok (.iconst 0, 1) := by decide +kernel
theorem dLM_2059 : decode code 2059 = .ok (.invokevirtual 254, 3) := by decide +kernel
theorem dLM_2062 : decode code 2062 = .ok (.if_icmp .eq 593, 3) := by decide +kernel
theorem dLM_2065 : decode code 2065 = .ok (.iconst 0, 1) := by decide +kernel
theorem dLM_2066 : decode code 2066 = .ok (.ireturn, 1) := by decide +kernel
theorem dLM_2067 : decode code 2067 = .ok (.aload_n 1, 1) := by decide +kernel
theorem dLM_2068 : decode code 2068 = .ok (.invokevirtual 255, 3) := by decide +kernel
theorem dLM_2071 : decode code 2071 = .ok (.aload_n 2, 1) := by decide +kernel
theorem dLM_2072 : decode code 2072 = .ok (.invokevirtual 258, 3) := by decide +kernel
theorem dLM_2075 : decode code 2075 = .ok (.if_icmp .eq 580, 3) := by decide +kernel
theorem dLM_2078 : decode code 2078 = .ok (.iconst 0, 1) := by decide +kernel
theorem dLM_2079 : decode code 2079 = .ok (.ireturn, 1) := by decide +kernel
theorem dLM_2080 : decode code 2080 = .ok (.aload_n 1, 1) := by decide +kernel
theorem dLM_2081 : decode code 2081 = .ok (.invokevirtual 259, 3) := by decide +kernel
theorem dLM_2084 : decode code 2084 = .ok (.aload_n 2, 1) := by decide +kernel
theorem dLM_2085 : decode code 2085 = .ok (.invokevirtual 262, 3) := by decide +kernel
theorem dLM_2088 : decode code 2088 = .ok (.if_icmp .eq 567, 3) := by decide +kernel
theorem dLM_2091 : decode code 2091 = .ok (.iconst 0, 1) := by decide +kernel
theorem dLM_2092 : decode code 2092 = .ok (.ireturn, 1) := by decide +kernel
theorem dLM_2093 : decode code 2093 = .ok (.aload_n 1, 1) := by decide +kernel
theorem dLM_2094 : decode code 2094 = .ok (.invokevirtual 263, 3) := by decide +kernel
theorem dLM_2097 : decode code 2097 = .ok (.aload_n 2, 1) := by decide +kernel
theorem dLM_2098 : decode code 2098 = .ok (.invokevirtual 266, 3) := by decide +kernel
theorem dLM_2101 : decode code 2101 = .ok (.if_icmp .eq 554, 3) := by decide +kernel
theorem dLM_2104 : decode code 2104 = .ok (.iconst 0, 1) := by decide +kernel
theorem dLM_2105 : decode code 2105 = .ok (.ireturn, 1) := by decide +kernel
theorem dLM_2106 : decode code 2106 = .ok (.aload_n 1, 1) := by decide +kernel
theorem dLM_2107 : decode code 2107 = .ok (.invokevirtual 267, 3) := by decide +kernel
theorem dLM_2110 : decode code 2110 = .ok (.aload_n 2, 1) := by decide +kernel
theorem dLM_2111 : decode code 2111 = .ok (.invokevirtual 270, 3) := by decide +kernel
theorem dLM_2114 : decode code 2114 = .ok (.if_icmp .eq 541, 3) := by decide +kernel
theorem dLM_2117 : decode code 2117 = .ok (.iconst 0, 1) := by decide +kernel
theorem dLM_2118 : decode code 2118 = .ok (.ireturn, 1) := by decide +kernel
theorem dLM_2119 : decode code 2119 = .ok (.aload_n 1, 1) := by decide +kernel
theorem dLM_2120 : decode code 2120 = .ok (.aload_n 0, 1) := by decide +kernel
theorem dLM_2121 : decode code 2121 = .ok (.iload 4, 2) := by decide +kernel
theorem dLM_2123 : decode code 2123 = .ok (.iconst 1, 1) := by decide +kernel
theorem dLM_2124 : decode code 2124 = .ok (.iadd, 1) := by decide +kernel
theorem dLM_2125 : decode code 2125 = .ok (.iaload, 1) := by decide +kernel
theorem dLM_2126 : decode code 2126 = .ok (.ifCond .eq 7, 3) := by decide +kernel
theorem dLM_2129 : decode code 2129 = .ok (.iconst 1, 1) := by decide +kernel
theorem dLM_2130 : decode code 2130 = .ok (.goto 4, 3) := by decide +kernel
theorem dLM_2133 : decode code 2133 = .ok (.iconst 0, 1) := by decide +kernel
theorem dLM_2134 : decode code 2134 = .ok (.aload_n 3, 1) := by decide +kernel
theorem dLM_2135 : decode code 2135 = .ok (.invokestatic 271, 3) := by decide +kernel
theorem dLM_2138 : decode code 2138 = .ok (.istore 5, 2) := by decide +kernel
theorem dLM_2140 : decode code 2140 = .ok (.aload_n 2, 1) := by decide +kernel
theorem dLM_2141 : decode code 2141 = .ok (.aload_n 0, 1) := by decide +kernel
theorem dLM_2142 : decode code 2142 = .ok (.iload 4, 2) := by decide +kernel
theorem dLM_2144 : decode code 2144 = .ok (.iconst 1, 1) := by decide +kernel
theorem dLM_2145 : decode code 2145 = .ok (.iadd, 1) := by decide +kernel
theorem dLM_2146 : decode code 2146 = .ok (.iaload, 1) := by decide +kernel
theorem dLM_2147 : decode code 2147 = .ok (.ifCond .eq 7, 3) := by decide +kernel
theorem dLM_2150 : decode code 2150 = .ok (.iconst 1, 1) := by decide +kernel
theorem dLM_2151 : decode code 2151 = .ok (.goto 4, 3) := by decide +kernel
theorem dLM_2154 : decode code 2154 = .ok (.iconst 0, 1) := by decide +kernel
theorem dLM_2155 : decode code 2155 = .ok (.invokevirtual 274, 3) := by decide +kernel
theorem dLM_2158 : decode code 2158 = .ok (.istore 6, 2) := by decide +kernel
theorem dLM_2160 : decode code 2160 = .ok (.aload_n 2, 1) := by decide +kernel
theorem dLM_2161 : decode code 2161 = .ok (.invokevirtual 130, 3) := by decide +kernel
theorem dLM_2164 : decode code 2164 = .ok (.iload 5, 2) := by decide +kernel
theorem dLM_2166 : decode code 2166 = .ok (.if_icmp .eq 5, 3) := by decide +kernel
theorem dLM_2169 : decode code 2169 = .ok (.iconst 0, 1) := by decide +kernel
theorem dLM_2170 : decode code 2170 = .ok (.ireturn, 1) := by decide +kernel
theorem dLM_2171 : decode code 2171 = .ok (.iload 5, 2) := by decide +kernel
theorem dLM_2173 : decode code 2173 = .ok (.ifCond .ne 15, 3) := by decide +kernel
theorem dLM_2176 : decode code 2176 = .ok (.aload_n 3, 1) := by decide +kernel
theorem dLM_2177 : decode code 2177 = .ok (.iconst 0, 1) := by decide +kernel
theorem dLM_2178 : decode code 2178 = .ok (.laload, 1) := by decide +kernel
theorem dLM_2179 : decode code 2179 = .ok (.iload 6, 2) := by decide +kernel
theorem dLM_2181 : decode code 2181 = .ok (.i2l, 1) := by decide +kernel
theorem dLM_2182 : decode code 2182 = .ok (.lcmp, 1) := by decide +kernel
theorem dLM_2183 : decode code 2183 = .ok (.ifCond .eq 5, 3) := by decide +kernel
theorem dLM_2186 : decode code 2186 = .ok (.iconst 0, 1) := by decide +kernel
theorem dLM_2187 : decode code 2187 = .ok (.ireturn, 1) := by decide +kernel
theorem dLM_2188 : decode code 2188 = .ok (.goto 467, 3) := by decide +kernel
theorem dLM_2191 : decode code 2191 = .ok (.aload_n 1, 1) := by decide +kernel
theorem dLM_2192 : decode code 2192 = .ok (.aload_n 3, 1) := by decide +kernel
theorem dLM_2193 : decode code 2193 = .ok (.invokestatic 275, 3) := by decide +kernel
theorem dLM_2196 : decode code 2196 = .ok (.istore 5, 2) := by decide +kernel
theorem dLM_2198 : decode code 2198 = .ok (.aload_n 2, 1) := by decide +kernel
theorem dLM_2199 : decode code 2199 = .ok (.invokevirtual 277, 3) := by decide +kernel
theorem dLM_2202 : decode code 2202 = .ok (.istore 6, 2) := by decide +kernel
theorem dLM_2204 : decode code 2204 = .ok (.aload_n 2, 1) := by decide +kernel
theorem dLM_2205 : decode code 2205 = .ok (.invokevirtual 130, 3) := by decide +kernel
theorem dLM_2208 : decode code 2208 = .ok (.iload 5, 2) := by decide +kernel
theorem dLM_2210 : decode code 2210 = .ok (.if_icmp .eq 5, 3) := by decide +kernel
theorem dLM_2213 : decode code 2213 = .ok (.iconst 0, 1) := by decide +kernel
theorem dLM_2214 : decode code 2214 = .ok (.ireturn, 1) := by decide +kernel
theorem dLM_2215 : decode code 2215 = .ok (.iload 5, 2) := by decide +kernel
theorem dLM_2217 : decode code 2217 = .ok (.ifCond .ne 15, 3) := by decide +kernel
theorem dLM_2220 : decode code 2220 = .ok (.aload_n 3, 1) := by decide +kernel
theorem dLM_2221 : decode code 2221 = .ok (.iconst 0, 1) := by decide +kernel
theorem dLM_2222 : decode code 2222 = .ok (.laload, 1) := by decide +kernel
theorem dLM_2223 : decode code 2223 = .ok (.iload 6, 2) := by decide +kernel
theorem dLM_2225 : decode code 2225 = .ok (.i2l, 1) := by decide +kernel
theorem dLM_2226 : decode code 2226 = .ok (.lcmp, 1) := by decide +kernel
theorem dLM_2227 : decode code 2227 = .ok (.ifCond .eq 5, 3) := by decide +kernel
theorem dLM_2230 : decode code 2230 = .ok (.iconst 0, 1) := by decide +kernel
theorem dLM_2231 : decode code 2231 = .ok (.ireturn, 1) := by decide +kernel
theorem dLM_2232 : decode code 2232 = .ok (.goto 423, 3) := by decide +kernel
theorem dLM_2235 : decode code 2235 = .ok (.aload_n 1, 1) := by decide +kernel
theorem dLM_2236 : decode code 2236 = .ok (.invokevirtual 278, 3) := by decide +kernel
theorem dLM_2239 : decode code 2239 = .ok (.aload_n 2, 1) := by decide +kernel
theorem dLM_2240 : decode code 2240 = .ok (.invokevirtual 281, 3) := by decide +kernel
theorem dLM_2243 : decode code 2243 = .ok (.if_icmp .eq 412, 3) := by decide +kernel
theorem dLM_2246 : decode code 2246 = .ok (.iconst 0, 1) := by decide +kernel
theorem dLM_2247 : decode code 2247 = .ok (.ireturn, 1) := by decide +kernel
theorem dLM_2248 : decode code 2248 = .ok (.aload_n 1, 1) := by decide +kernel
theorem dLM_2249 : decode code 2249 = .ok (.aload_n 0, 1) := by decide +kernel
theorem dLM_2250 : decode code 2250 = .ok (.iload 4, 2) := by decide +kernel
theorem dLM_2252 : decode code 2252 = .ok (.iconst 1, 1) := by decide +kernel
theorem dLM_2253 : decode code 2253 = .ok (.iadd, 1) := by decide +kernel
theorem dLM_2254 : decode code 2254 = .ok (.iaload, 1) := by decide +kernel
theorem dLM_2255 : decode code 2255 = .ok (.aload_n 0, 1) := by decide +kernel
theorem dLM_2256 : decode code 2256 = .ok (.iload 4, 2) := by decide +kernel
theorem dLM_2258 : decode code 2258 = .ok (.iconst 2, 1) := by decide +kernel
theorem dLM_2259 : decode code 2259 = .ok (.iadd, 1) := by decide +kernel
theorem dLM_2260 : decode code 2260 = .ok (.iaload, 1) := by decide +kernel
theorem dLM_2261 : decode code 2261 = .ok (.ifCond .eq 7, 3) := by decide +kernel
theorem dLM_2264 : decode code 2264 = .ok (.iconst 1, 1) := by decide +kernel
theorem dLM_2265 : decode code 2265 = .ok (.goto 4, 3) := by decide +kernel
theorem dLM_2268 : decode code 2268 = .ok (.iconst 0, 1) := by decide +kernel
theorem dLM_2269 : decode code 2269 = .ok (.aload_n 3, 1) := by decide +kernel
theorem dLM_2270 : decode code 2270 = .ok (.invokestatic 282, 3) := by decide +kernel
theorem dLM_2273 : decode code 2273 = .ok (.istore 5, 2) := by decide +kernel
theorem dLM_2275 : decode code 2275 = .ok (.aload_n 2, 1) := by decide +kernel
theorem dLM_2276 : decode code 2276 = .ok (.aload_n 0, 1) := by decide +kernel
theorem dLM_2277 : decode code 2277 = .ok (.iload 4, 2) := by decide +kernel
theorem dLM_2279 : decode code 2279 = .ok (.iconst 1, 1) := by decide +kernel
theorem dLM_2280 : decode code 2280 = .ok (.iadd, 1) := by decide +kernel
theorem dLM_2281 : decode code 2281 = .ok (.iaload, 1) := by decide +kernel
theorem dLM_2282 : decode code 2282 = .ok (.aload_n 0, 1) := by decide +kernel
theorem dLM_2283 : decode code 2283 = .ok (.iload 4, 2) := by decide +kernel
theorem dLM_2285 : decode code 2285 = .ok (.iconst 2, 1) := by decide +kernel
theorem dLM_2286 : decode code 2286 = .ok (.iadd, 1) := by decide +kernel
theorem dLM_2287 : decode code 2287 = .ok (.iaload, 1) := by decide +kernel
theorem dLM_2288 : decode code 2288 = .ok (.ifCond .eq 7, 3) := by decide +kernel
theorem dLM_2291 : decode code 2291 = .ok (.iconst 1, 1) := by decide +kernel
theorem dLM_2292 : decode code 2292 = .ok (.goto 4, 3) := by decide +kernel
theorem dLM_2295 : decode code 2295 = .ok (.iconst 0, 1) := by decide +kernel
theorem dLM_2296 : decode code 2296 = .ok (.invokevirtual 284, 3) := by decide +kernel
theorem dLM_2299 : decode code 2299 = .ok (.istore 6, 2) := by decide +kernel
theorem dLM_2301 : decode code 2301 = .ok (.aload_n 2, 1) := by decide +kernel
theorem dLM_2302 : decode code 2302 = .ok (.invokevirtual 130, 3) := by decide +kernel
theorem dLM_2305 : decode code 2305 = .ok (.iload 5, 2) := by decide +kernel
theorem dLM_2307 : decode code 2307 = .ok (.if_icmp .eq 5, 3) := by decide +kernel
theorem dLM_2310 : decode code 2310 = .ok (.iconst 0, 1) := by decide +kernel
theorem dLM_2311 : decode code 2311 = .ok (.ireturn, 1) := by decide +kernel
theorem dLM_2312 : decode code 2312 = .ok (.iload 5, 2) := by decide +kernel
theorem dLM_2314 : decode code 2314 = .ok (.ifCond .ne 15, 3) := by decide +kernel
theorem dLM_2317 : decode code 2317 = .ok (.aload_n 3, 1) := by decide +kernel
theorem dLM_2318 : decode code 2318 = .ok (.iconst 0, 1) := by decide +kernel
theorem dLM_2319 : decode code 2319 = .ok (.laload, 1) := by decide +kernel
theorem dLM_2320 : decode code 2320 = .ok (.iload 6, 2) := by decide +kernel
theorem dLM_2322 : decode code 2322 = .ok (.i2l, 1) := by decide +kernel
theorem dLM_2323 : decode code 2323 = .ok (.lcmp, 1) := by decide +kernel
theorem dLM_2324 : decode code 2324 = .ok (.ifCond .eq 5, 3) := by decide +kernel
theorem dLM_2327 : decode code 2327 = .ok (.iconst 0, 1) := by decide +kernel
theorem dLM_2328 : decode code 2328 = .ok (.ireturn, 1) := by decide +kernel
theorem dLM_2329 : decode code 2329 = .ok (.goto 326, 3) := by decide +kernel
theorem dLM_2332 : decode code 2332 = .ok (.aload_n 1, 1) := by decide +kernel
theorem dLM_2333 : decode code 2333 = .ok (.aload_n 0, 1) := by decide +kernel
theorem dLM_2334 : decode code 2334 = .ok (.iload 4, 2) := by decide +kernel
theorem dLM_2336 : decode code 2336 = .ok (.iconst 1, 1) := by decide +kernel
theorem dLM_2337 : decode code 2337 = .ok (.iadd, 1) := by decide +kernel
theorem dLM_2338 : decode code 2338 = .ok (.iaload, 1) := by decide +kernel
theorem dLM_2339 : decode code 2339 = .ok (.aload_n 0, 1) := by decide +kernel
theorem dLM_2340 : decode code 2340 = .ok (.iload 4, 2) := by decide +kernel
theorem dLM_2342 : decode code 2342 = .ok (.iconst 2, 1) := by decide +kernel
theorem dLM_2343 : decode code 2343 = .ok (.iadd, 1) := by decide +kernel
theorem dLM_2344 : decode code 2344 = .ok (.iaload, 1) := by decide +kernel
theorem dLM_2345 : decode code 2345 = .ok (.ifCond .eq 7, 3) := by decide +kernel
theorem dLM_2348 : decode code 2348 = .ok (.iconst 1, 1) := by decide +kernel
theorem dLM_2349 : decode code 2349 = .ok (.goto 4, 3) := by decide +kernel
theorem dLM_2352 : decode code 2352 = .ok (.iconst 0, 1) := by decide +kernel
theorem dLM_2353 : decode code 2353 = .ok (.aload_n 3, 1) := by decide +kernel
theorem dLM_2354 : decode code 2354 = .ok (.invokestatic 285, 3) := by decide +kernel
theorem dLM_2357 : decode code 2357 = .ok (.istore 5, 2) := by decide +kernel
theorem dLM_2359 : decode code 2359 = .ok (.aload_n 2, 1) := by decide +kernel
theorem dLM_2360 : decode code 2360 = .ok (.aload_n 0, 1) := by decide +kernel
theorem dLM_2361 : decode code 2361 = .ok (.iload 4, 2) := by decide +kernel
theorem dLM_2363 : decode code 2363 = .ok (.iconst 1, 1) := by decide +kernel
theorem dLM_2364 : decode code 2364 = .ok (.iadd, 1) := by decide +kernel
theorem dLM_2365 : decode code 2365 = .ok (.iaload, 1) := by decide +kernel
theorem dLM_2366 : decode code 2366 = .ok (.aload_n 0, 1) := by decide +kernel
theorem dLM_2367 : decode code 2367 = .ok (.iload 4, 2) := by decide +kernel
theorem dLM_2369 : decode code 2369 = .ok (.iconst 2, 1) := by decide +kernel
theorem dLM_2370 : decode code 2370 = .ok (.iadd, 1) := by decide +kernel
theorem dLM_2371 : decode code 2371 = .ok (.iaload, 1) := by decide +kernel
theorem dLM_2372 : decode code 2372 = .ok (.ifCond .eq 7, 3) := by decide +kernel
theorem dLM_2375 : decode code 2375 = .ok (.iconst 1, 1) := by decide +kernel
theorem dLM_2376 : decode code 2376 = .ok (.goto 4, 3) := by decide +kernel
theorem dLM_2379 : decode code 2379 = .ok (.iconst 0, 1) := by decide +kernel
theorem dLM_2380 : decode code 2380 = .ok (.invokevirtual 287, 3) := by decide +kernel
theorem dLM_2383 : decode code 2383 = .ok (.istore 6, 2) := by decide +kernel
theorem dLM_2385 : decode code 2385 = .ok (.aload_n 2, 1) := by decide +kernel
theorem dLM_2386 : decode code 2386 = .ok (.invokevirtual 130, 3) := by decide +kernel
theorem dLM_2389 : decode code 2389 = .ok (.iload 5, 2) := by decide +kernel
theorem dLM_2391 : decode code 2391 = .ok (.if_icmp .eq 5, 3) := by decide +kernel
theorem dLM_2394 : decode code 2394 = .ok (.iconst 0, 1) := by decide +kernel
theorem dLM_2395 : decode code 2395 = .ok (.ireturn, 1) := by decide +kernel
theorem dLM_2396 : decode code 2396 = .ok (.iload 5, 2) := by decide +kernel
theorem dLM_2398 : decode code 2398 = .ok (.ifCond .ne 15, 3) := by decide +kernel
theorem dLM_2401 : decode code 2401 = .ok (.aload_n 3, 1) := by decide +kernel
theorem dLM_2402 : decode code 2402 = .ok (.iconst 0, 1) := by decide +kernel
theorem dLM_2403 : decode code 2403 = .ok (.laload, 1) := by decide +kernel
theorem dLM_2404 : decode code 2404 = .ok (.iload 6, 2) := by decide +kernel
theorem dLM_2406 : decode code 2406 = .ok (.i2l, 1) := by decide +kernel
theorem dLM_2407 : decode code 2407 = .ok (.lcmp, 1) := by decide +kernel
theorem dLM_2408 : decode code 2408 = .ok (.ifCond .eq 5, 3) := by decide +kernel
theorem dLM_2411 : decode code 2411 = .ok (.iconst 0, 1) := by decide +kernel
theorem dLM_2412 : decode code 2412 = .ok (.ireturn, 1) := by decide +kernel
theorem dLM_2413 : decode code 2413 = .ok (.goto 242, 3) := by decide +kernel
theorem dLM_2416 : decode code 2416 = .ok (.aload_n 1, 1) := by decide +kernel
theorem dLM_2417 : decode code 2417 = .ok (.aload_n 0, 1) := by decide +kernel
theorem dLM_2418 : decode code 2418 = .ok (.iload 4, 2) := by decide +kernel
theorem dLM_2420 : decode code 2420 = .ok (.iconst 1, 1) := by decide +kernel
theorem dLM_2421 : decode code 2421 = .ok (.iadd, 1) := by decide +kernel
theorem dLM_2422 : decode code 2422 = .ok (.iaload, 1) := by decide +kernel
theorem dLM_2423 : decode code 2423 = .ok (.aload_n 0, 1) := by decide +kernel
theorem dLM_2424 : decode code 2424 = .ok (.iload 4, 2) := by decide +kernel
theorem dLM_2426 : decode code 2426 = .ok (.iconst 2, 1) := by decide +kernel
theorem dLM_2427 : decode code 2427 = .ok (.iadd, 1) := by decide +kernel
theorem dLM_2428 : decode code 2428 = .ok (.iaload, 1) := by decide +kernel
theorem dLM_2429 : decode code 2429 = .ok (.ifCond .eq 7, 3) := by decide +kernel
theorem dLM_2432 : decode code 2432 = .ok (.iconst 1, 1) := by decide +kernel
theorem dLM_2433 : decode code 2433 = .ok (.goto 4, 3) := by decide +kernel
theorem dLM_2436 : decode code 2436 = .ok (.iconst 0, 1) := by decide +kernel
theorem dLM_2437 : decode code 2437 = .ok (.aload_n 3, 1) := by decide +kernel
theorem dLM_2438 : decode code 2438 = .ok (.invokestatic 288, 3) := by decide +kernel
theorem dLM_2441 : decode code 2441 = .ok (.istore 5, 2) := by decide +kernel
theorem dLM_2443 : decode code 2443 = .ok (.aload_n 2, 1) := by decide +kernel
theorem dLM_2444 : decode code 2444 = .ok (.aload_n 0, 1) := by decide +kernel
theorem dLM_2445 : decode code 2445 = .ok (.iload 4, 2) := by decide +kernel
theorem dLM_2447 : decode code 2447 = .ok (.iconst 1, 1) := by decide +kernel
theorem dLM_2448 : decode code 2448 = .ok (.iadd, 1) := by decide +kernel
theorem dLM_2449 : decode code 2449 = .ok (.iaload, 1) := by decide +kernel
theorem dLM_2450 : decode code 2450 = .ok (.aload_n 0, 1) := by decide +kernel
theorem dLM_2451 : decode code 2451 = .ok (.iload 4, 2) := by decide +kernel
theorem dLM_2453 : decode code 2453 = .ok (.iconst 2, 1) := by decide +kernel
theorem dLM_2454 : decode code 2454 = .ok (.iadd, 1) := by decide +kernel
theorem dLM_2455 : decode code 2455 = .ok (.iaload, 1) := by decide +kernel
theorem dLM_2456 : decode code 2456 = .ok (.ifCond .eq 7, 3) := by decide +kernel
theorem dLM_2459 : decode code 2459 = .ok (.iconst 1, 1) := by decide +kernel
theorem dLM_2460 : decode code 2460 = .ok (.goto 4, 3) := by decide +kernel
theorem dLM_2463 : decode code 2463 = .ok (.iconst 0, 1) := by decide +kernel
theorem dLM_2464 : decode code 2464 = .ok (.invokevirtual 290, 3) := by decide +kernel
theorem dLM_2467 : decode code 2467 = .ok (.istore 6, 2) := by decide +kernel
theorem dLM_2469 : decode code 2469 = .ok (.aload_n 2, 1) := by decide +kernel
theorem dLM_2470 : decode code 2470 = .ok (.invokevirtual 130, 3) := by decide +kernel
theorem dLM_2473 : decode code 2473 = .ok (.iload 5, 2) := by decide +kernel
theorem dLM_2475 : decode code 2475 = .ok (.if_icmp .eq 5, 3) := by decide +kernel
theorem dLM_2478 : decode code 2478 = .ok (.iconst 0, 1) := by decide +kernel
theorem dLM_2479 : decode code 2479 = .ok (.ireturn, 1) := by decide +kernel
theorem dLM_2480 : decode code 2480 = .ok (.iload 5, 2) := by decide +kernel
theorem dLM_2482 : decode code 2482 = .ok (.ifCond .ne 15, 3) := by decide +kernel
theorem dLM_2485 : decode code 2485 = .ok (.aload_n 3, 1) := by decide +kernel
theorem dLM_2486 : decode code 2486 = .ok (.iconst 0, 1) := by decide +kernel
theorem dLM_2487 : decode code 2487 = .ok (.laload, 1) := by decide +kernel
theorem dLM_2488 : decode code 2488 = .ok (.iload 6, 2) := by decide +kernel
theorem dLM_2490 : decode code 2490 = .ok (.i2l, 1) := by decide +kernel
theorem dLM_2491 : decode code 2491 = .ok (.lcmp, 1) := by decide +kernel
theorem dLM_2492 : decode code 2492 = .ok (.ifCond .eq 5, 3) := by decide +kernel
theorem dLM_2495 : decode code 2495 = .ok (.iconst 0, 1) := by decide +kernel
theorem dLM_2496 : decode code 2496 = .ok (.ireturn, 1) := by decide +kernel
theorem dLM_2497 : decode code 2497 = .ok (.goto 158, 3) := by decide +kernel
theorem dLM_2500 : decode code 2500 = .ok (.aload_n 1, 1) := by decide +kernel
theorem dLM_2501 : decode code 2501 = .ok (.aload_n 0, 1) := by decide +kernel
theorem dLM_2502 : decode code 2502 = .ok (.iload 4, 2) := by decide +kernel
theorem dLM_2504 : decode code 2504 = .ok (.iconst 1, 1) := by decide +kernel
theorem dLM_2505 : decode code 2505 = .ok (.iadd, 1) := by decide +kernel
theorem dLM_2506 : decode code 2506 = .ok (.iaload, 1) := by decide +kernel
theorem dLM_2507 : decode code 2507 = .ok (.aload_n 0, 1) := by decide +kernel
theorem dLM_2508 : decode code 2508 = .ok (.iload 4, 2) := by decide +kernel
theorem dLM_2510 : decode code 2510 = .ok (.iconst 2, 1) := by decide +kernel
theorem dLM_2511 : decode code 2511 = .ok (.iadd, 1) := by decide +kernel
theorem dLM_2512 : decode code 2512 = .ok (.iaload, 1) := by decide +kernel
theorem dLM_2513 : decode code 2513 = .ok (.aload_n 3, 1) := by decide +kernel
theorem dLM_2514 : decode code 2514 = .ok (.invokestatic 291, 3) := by decide +kernel
theorem dLM_2517 : decode code 2517 = .ok (.istore 5, 2) := by decide +kernel
theorem dLM_2519 : decode code 2519 = .ok (.aload_n 2, 1) := by decide +kernel
theorem dLM_2520 : decode code 2520 = .ok (.aload_n 0, 1) := by decide +kernel
theorem dLM_2521 : decode code 2521 = .ok (.iload 4, 2) := by decide +kernel
theorem dLM_2523 : decode code 2523 = .ok (.iconst 1, 1) := by decide +kernel
theorem dLM_2524 : decode code 2524 = .ok (.iadd, 1) := by decide +kernel
theorem dLM_2525 : decode code 2525 = .ok (.iaload, 1) := by decide +kernel
theorem dLM_2526 : decode code 2526 = .ok (.aload_n 0, 1) := by decide +kernel
theorem dLM_2527 : decode code 2527 = .ok (.iload 4, 2) := by decide +kernel
theorem dLM_2529 : decode code 2529 = .ok (.iconst 2, 1) := by decide +kernel
theorem dLM_2530 : decode code 2530 = .ok (.iadd, 1) := by decide +kernel
theorem dLM_2531 : decode code 2531 = .ok (.iaload, 1) := by decide +kernel
theorem dLM_2532 : decode code 2532 = .ok (.invokevirtual 293, 3) := by decide +kernel
theorem dLM_2535 : decode code 2535 = .ok (.istore 6, 2) := by decide +kernel
theorem dLM_2537 : decode code 2537 = .ok (.aload_n 2, 1) := by decide +kernel
theorem dLM_2538 : decode code 2538 = .ok (.invokevirtual 130, 3) := by decide +kernel
theorem dLM_2541 : decode code 2541 = .ok (.iload 5, 2) := by decide +kernel
theorem dLM_2543 : decode code 2543 = .ok (.if_icmp .eq 5, 3) := by decide +kernel
theorem dLM_2546 : decode code 2546 = .ok (.iconst 0, 1) := by decide +kernel
theorem dLM_2547 : decode code 2547 = .ok (.ireturn, 1) := by decide +kernel
theorem dLM_2548 : decode code 2548 = .ok (.iload 5, 2) := by decide +kernel
theorem dLM_2550 : decode code 2550 = .ok (.ifCond .ne 15, 3) := by decide +kernel
theorem dLM_2553 : decode code 2553 = .ok (.aload_n 3, 1) := by decide +kernel
theorem dLM_2554 : decode code 2554 = .ok (.iconst 0, 1) := by decide +kernel
theorem dLM_2555 : decode code 2555 = .ok (.laload, 1) := by decide +kernel
theorem dLM_2556 : decode code 2556 = .ok (.iload 6, 2) := by decide +kernel
theorem dLM_2558 : decode code 2558 = .ok (.i2l, 1) := by decide +kernel
theorem dLM_2559 : decode code 2559 = .ok (.lcmp, 1) := by decide +kernel
theorem dLM_2560 : decode code 2560 = .ok (.ifCond .eq 5, 3) := by decide +kernel
theorem dLM_2563 : decode code 2563 = .ok (.iconst 0, 1) := by decide +kernel
theorem dLM_2564 : decode code 2564 = .ok (.ireturn, 1) := by decide +kernel
theorem dLM_2565 : decode code 2565 = .ok (.goto 90, 3) := by decide +kernel
theorem dLM_2568 : decode code 2568 = .ok (.aload_n 1, 1) := by decide +kernel
theorem dLM_2569 : decode code 2569 = .ok (.aload_n 0, 1) := by decide +kernel
theorem dLM_2570 : decode code 2570 = .ok (.iload 4, 2) := by decide +kernel
theorem dLM_2572 : decode code 2572 = .ok (.iconst 1, 1) := by decide +kernel
theorem dLM_2573 : decode code 2573 = .ok (.iadd, 1) := by decide +kernel
theorem dLM_2574 : decode code 2574 = .ok (.iaload, 1) := by decide +kernel
theorem dLM_2575 : decode code 2575 = .ok (.invokevirtual 294, 3) := by decide +kernel
theorem dLM_2578 : decode code 2578 = .ok (.aload_n 2, 1) := by decide +kernel
theorem dLM_2579 : decode code 2579 = .ok (.aload_n 0, 1) := by decide +kernel
theorem dLM_2580 : decode code 2580 = .ok (.iload 4, 2) := by decide +kernel
theorem dLM_2582 : decode code 2582 = .ok (.iconst 1, 1) := by decide +kernel
theorem dLM_2583 : decode code 2583 = .ok (.iadd, 1) := by decide +kernel
theorem dLM_2584 : decode code 2584 = .ok (.iaload, 1) := by decide +kernel
theorem dLM_2585 : decode code 2585 = .ok (.invokevirtual 297, 3) := by decide +kernel
theorem dLM_2588 : decode code 2588 = .ok (.if_icmp .eq 67, 3) := by decide +kernel
theorem dLM_2591 : decode code 2591 = .ok (.iconst 0, 1) := by decide +kernel
theorem dLM_2592 : decode code 2592 = .ok (.ireturn, 1) := by decide +kernel
theorem dLM_2593 : decode code 2593 = .ok (.aload_n 1, 1) := by decide +kernel
theorem dLM_2594 : decode code 2594 = .ok (.invokevirtual 298, 3) := by decide +kernel
theorem dLM_2597 : decode code 2597 = .ok (.aload_n 2, 1) := by decide +kernel
theorem dLM_2598 : decode code 2598 = .ok (.invokevirtual 302, 3) := by decide +kernel
theorem dLM_2601 : decode code 2601 = .ok (.if_icmp .eq 54, 3) := by decide +kernel
theorem dLM_2604 : decode code 2604 = .ok (.iconst 0, 1) := by decide +kernel
theorem dLM_2605 : decode code 2605 = .ok (.ireturn, 1) := by decide +kernel
theorem dLM_2606 : decode code 2606 = .ok (.aload_n 1, 1) := by decide +kernel
theorem dLM_2607 : decode code 2607 = .ok (.invokevirtual 303, 3) := by decide +kernel
theorem dLM_2610 : decode code 2610 = .ok (.aload_n 2, 1) := by decide +kernel
theorem dLM_2611 : decode code 2611 = .ok (.invokevirtual 306, 3) := by decide +kernel
theorem dLM_2614 : decode code 2614 = .ok (.goto 41, 3) := by decide +kernel
theorem dLM_2617 : decode code 2617 = .ok (.aload_n 1, 1) := by decide +kernel
theorem dLM_2618 : decode code 2618 = .ok (.invokevirtual 307, 3) := by decide +kernel
theorem dLM_2621 : decode code 2621 = .ok (.aload_n 2, 1) := by decide +kernel
theorem dLM_2622 : decode code 2622 = .ok (.invokevirtual 310, 3) := by decide +kernel
theorem dLM_2625 : decode code 2625 = .ok (.if_icmp .eq 30, 3) := by decide +kernel
theorem dLM_2628 : decode code 2628 = .ok (.iconst 0, 1) := by decide +kernel
theorem dLM_2629 : decode code 2629 = .ok (.ireturn, 1) := by decide +kernel
theorem dLM_2630 : decode code 2630 = .ok (.aload_n 1, 1) := by decide +kernel
theorem dLM_2631 : decode code 2631 = .ok (.aload_n 0, 1) := by decide +kernel
theorem dLM_2632 : decode code 2632 = .ok (.iload 4, 2) := by decide +kernel
theorem dLM_2634 : decode code 2634 = .ok (.iconst 1, 1) := by decide +kernel
theorem dLM_2635 : decode code 2635 = .ok (.iadd, 1) := by decide +kernel
theorem dLM_2636 : decode code 2636 = .ok (.iaload, 1) := by decide +kernel
theorem dLM_2637 : decode code 2637 = .ok (.invokevirtual 311, 3) := by decide +kernel
theorem dLM_2640 : decode code 2640 = .ok (.aload_n 2, 1) := by decide +kernel
theorem dLM_2641 : decode code 2641 = .ok (.aload_n 0, 1) := by decide +kernel
theorem dLM_2642 : decode code 2642 = .ok (.iload 4, 2) := by decide +kernel
theorem dLM_2644 : decode code 2644 = .ok (.iconst 1, 1) := by decide +kernel
theorem dLM_2645 : decode code 2645 = .ok (.iadd, 1) := by decide +kernel
theorem dLM_2646 : decode code 2646 = .ok (.iaload, 1) := by decide +kernel
theorem dLM_2647 : decode code 2647 = .ok (.invokevirtual 314, 3) := by decide +kernel
theorem dLM_2650 : decode code 2650 = .ok (.if_icmp .eq 5, 3) := by decide +kernel
theorem dLM_2653 : decode code 2653 = .ok (.iconst 0, 1) := by decide +kernel
theorem dLM_2654 : decode code 2654 = .ok (.ireturn, 1) := by decide +kernel
theorem dLM_2655 : decode code 2655 = .ok (.iinc 4 6, 3) := by decide +kernel
theorem dLM_2658 : decode code 2658 = .ok (.goto (-2635), 3) := by decide +kernel
theorem dLM_2661 : decode code 2661 = .ok (.iconst 1, 1) := by decide +kernel
theorem dLM_2662 : decode code 2662 = .ok (.ireturn, 1) := by decide +kernel
