theorem dX9_reckonRange_274 : decode cX9_reckonRange 274 = .ok (.lcmp, 1) := by decide +kernel
theorem dX9_reckonRange_275 : decode cX9_reckonRange 275 = .ok (.ifCond .ne 7, 3) := by decide +kernel
theorem dX9_reckonRange_278 : decode cX9_reckonRange 278 = .ok (.iconst 1, 1) := by decide +kernel
theorem dX9_reckonRange_279 : decode cX9_reckonRange 279 = .ok (.goto 28, 3) := by decide +kernel
theorem dX9_reckonRange_282 : decode cX9_reckonRange 282 = .ok (.iconst 0, 1) := by decide +kernel
theorem dX9_reckonRange_283 : decode cX9_reckonRange 283 = .ok (.goto 24, 3) := by decide +kernel
theorem dX9_reckonRange_286 : decode cX9_reckonRange 286 = .ok (.lload 5, 2) := by decide +kernel
theorem dX9_reckonRange_288 : decode cX9_reckonRange 288 = .ok (.lload 7, 2) := by decide +kernel
theorem dX9_reckonRange_290 : decode cX9_reckonRange 290 = .ok (.lcmp, 1) := by decide +kernel
theorem dX9_reckonRange_291 : decode cX9_reckonRange 291 = .ok (.ifCond .ne 15, 3) := by decide +kernel
theorem dX9_reckonRange_294 : decode cX9_reckonRange 294 = .ok (.lload 9, 2) := by decide +kernel
theorem dX9_reckonRange_296 : decode cX9_reckonRange 296 = .ok (.lload 11, 2) := by decide +kernel
theorem dX9_reckonRange_298 : decode cX9_reckonRange 298 = .ok (.lcmp, 1) := by decide +kernel
theorem dX9_reckonRange_299 : decode cX9_reckonRange 299 = .ok (.ifCond .ne 7, 3) := by decide +kernel
theorem dX9_reckonRange_302 : decode cX9_reckonRange 302 = .ok (.iconst 1, 1) := by decide +kernel
theorem dX9_reckonRange_303 : decode cX9_reckonRange 303 = .ok (.goto 4, 3) := by decide +kernel
theorem dX9_reckonRange_306 : decode cX9_reckonRange 306 = .ok (.iconst 0, 1) := by decide +kernel
theorem dX9_reckonRange_307 : decode cX9_reckonRange 307 = .ok (.istore 17, 2) := by decide +kernel
theorem dX9_reckonRange_309 : decode cX9_reckonRange 309 = .ok (.iload 17, 2) := by decide +kernel
theorem dX9_reckonRange_311 : decode cX9_reckonRange 311 = .ok (.ifCond .eq 25, 3) := by decide +kernel
theorem dX9_reckonRange_314 : decode cX9_reckonRange 314 = .ok (.aload_n 0, 1) := by decide +kernel
theorem dX9_reckonRange_315 : decode cX9_reckonRange 315 = .ok (.iload_n 1, 1) := by decide +kernel
theorem dX9_reckonRange_316 : decode cX9_reckonRange 316 = .ok (.lload 5, 2) := by decide +kernel
theorem dX9_reckonRange_318 : decode cX9_reckonRange 318 = .ok (.lload 9, 2) := by decide +kernel
theorem dX9_reckonRange_320 : decode cX9_reckonRange 320 = .ok (.invokevirtual 283, 3) := by decide +kernel
theorem dX9_reckonRange_323 : decode cX9_reckonRange 323 = .ok (.lstore 18, 2) := by decide +kernel
theorem dX9_reckonRange_325 : decode cX9_reckonRange 325 = .ok (.aload_n 0, 1) := by decide +kernel
theorem dX9_reckonRange_326 : decode cX9_reckonRange 326 = .ok (.iload 4, 2) := by decide +kernel
theorem dX9_reckonRange_328 : decode cX9_reckonRange 328 = .ok (.lload 18, 2) := by decide +kernel
theorem dX9_reckonRange_330 : decode cX9_reckonRange 330 = .ok (.lload 18, 2) := by decide +kernel
theorem dX9_reckonRange_332 : decode cX9_reckonRange 332 = .ok (.invokevirtual 393, 3) := by decide +kernel
theorem dX9_reckonRange_335 : decode cX9_reckonRange 335 = .ok (.return_, 1) := by decide +kernel
theorem dX9_reckonRange_336 : decode cX9_reckonRange 336 = .ok (.iload_n 3, 1) := by decide +kernel
theorem dX9_reckonRange_337 : decode cX9_reckonRange 337 = .ok (.ifCond .eq 9, 3) := by decide +kernel
theorem dX9_reckonRange_340 : decode cX9_reckonRange 340 = .ok (.ldc2_w 187, 3) := by decide +kernel
theorem dX9_reckonRange_343 : decode cX9_reckonRange 343 = .ok (.goto 6, 3) := by decide +kernel
theorem dX9_reckonRange_346 : decode cX9_reckonRange 346 = .ok (.ldc2_w 192, 3) := by decide +kernel
theorem dX9_reckonRange_349 : decode cX9_reckonRange 349 = .ok (.lstore 18, 2) := by decide +kernel
theorem dX9_reckonRange_351 : decode cX9_reckonRange 351 = .ok (.aload_n 0, 1) := by decide +kernel
theorem dX9_reckonRange_352 : decode cX9_reckonRange 352 = .ok (.iload 4, 2) := by decide +kernel
theorem dX9_reckonRange_354 : decode cX9_reckonRange 354 = .ok (.lconst 0, 1) := by decide +kernel
theorem dX9_reckonRange_355 : decode cX9_reckonRange 355 = .ok (.lload 18, 2) := by decide +kernel
theorem dX9_reckonRange_357 : decode cX9_reckonRange 357 = .ok (.invokevirtual 393, 3) := by decide +kernel
theorem dX9_reckonRange_360 : decode cX9_reckonRange 360 = .ok (.lload 9, 2) := by decide +kernel
theorem dX9_reckonRange_362 : decode cX9_reckonRange 362 = .ok (.l2i, 1) := by decide +kernel
theorem dX9_reckonRange_363 : decode cX9_reckonRange 363 = .ok (.iload_n 3, 1) := by decide +kernel
theorem dX9_reckonRange_364 : decode cX9_reckonRange 364 = .ok (.ifCond .eq 8, 3) := by decide +kernel
theorem dX9_reckonRange_367 : decode cX9_reckonRange 367 = .ok (.bipush 63, 2) := by decide +kernel
theorem dX9_reckonRange_369 : decode cX9_reckonRange 369 = .ok (.goto 5, 3) := by decide +kernel
theorem dX9_reckonRange_372 : decode cX9_reckonRange 372 = .ok (.bipush 31, 2) := by decide +kernel
theorem dX9_reckonRange_374 : decode cX9_reckonRange 374 = .ok (.iand, 1) := by decide +kernel
theorem dX9_reckonRange_375 : decode cX9_reckonRange 375 = .ok (.istore 20, 2) := by decide +kernel
theorem dX9_reckonRange_377 : decode cX9_reckonRange 377 = .ok (.lload 9, 2) := by decide +kernel
theorem dX9_reckonRange_379 : decode cX9_reckonRange 379 = .ok (.lload 11, 2) := by decide +kernel
theorem dX9_reckonRange_381 : decode cX9_reckonRange 381 = .ok (.lcmp, 1) := by decide +kernel
theorem dX9_reckonRange_382 : decode cX9_reckonRange 382 = .ok (.ifCond .ne 7, 3) := by decide +kernel
theorem dX9_reckonRange_385 : decode cX9_reckonRange 385 = .ok (.iconst 1, 1) := by decide +kernel
theorem dX9_reckonRange_386 : decode cX9_reckonRange 386 = .ok (.goto 4, 3) := by decide +kernel
theorem dX9_reckonRange_389 : decode cX9_reckonRange 389 = .ok (.iconst 0, 1) := by decide +kernel
theorem dX9_reckonRange_390 : decode cX9_reckonRange 390 = .ok (.istore 21, 2) := by decide +kernel
theorem dX9_reckonRange_392 : decode cX9_reckonRange 392 = .ok (.iload_n 2, 1) := by decide +kernel
theorem dX9_reckonRange_393 : decode cX9_reckonRange 393 = .ok (.tableswitch 409 0 10 #[59, 104, 133, 187, 363, 346, 409, 409, 409, 257, 389], 59) := by decide +kernel
theorem dX9_reckonRange_452 : decode cX9_reckonRange 452 = .ok (.lload 7, 2) := by decide +kernel
theorem dX9_reckonRange_454 : decode cX9_reckonRange 454 = .ok (.lload 11, 2) := by decide +kernel
theorem dX9_reckonRange_456 : decode cX9_reckonRange 456 = .ok (.ladd, 1) := by decide +kernel
theorem dX9_reckonRange_457 : decode cX9_reckonRange 457 = .ok (.lload 7, 2) := by decide +kernel
theorem dX9_reckonRange_459 : decode cX9_reckonRange 459 = .ok (.invokestatic 175, 3) := by decide +kernel
theorem dX9_reckonRange_462 : decode cX9_reckonRange 462 = .ok (.ifCond .ne 357, 3) := by decide +kernel
theorem dX9_reckonRange_465 : decode cX9_reckonRange 465 = .ok (.lload 18, 2) := by decide +kernel
theorem dX9_reckonRange_467 : decode cX9_reckonRange 467 = .ok (.lload 7, 2) := by decide +kernel
theorem dX9_reckonRange_469 : decode cX9_reckonRange 469 = .ok (.lload 11, 2) := by decide +kernel
theorem dX9_reckonRange_471 : decode cX9_reckonRange 471 = .ok (.ladd, 1) := by decide +kernel
theorem dX9_reckonRange_472 : decode cX9_reckonRange 472 = .ok (.invokestatic 175, 3) := by decide +kernel
theorem dX9_reckonRange_475 : decode cX9_reckonRange 475 = .ok (.ifCond .ne 344, 3) := by decide +kernel
theorem dX9_reckonRange_478 : decode cX9_reckonRange 478 = .ok (.aload_n 0, 1) := by decide +kernel
theorem dX9_reckonRange_479 : decode cX9_reckonRange 479 = .ok (.iload 4, 2) := by decide +kernel
theorem dX9_reckonRange_481 : decode cX9_reckonRange 481 = .ok (.lload 5, 2) := by decide +kernel
theorem dX9_reckonRange_483 : decode cX9_reckonRange 483 = .ok (.lload 9, 2) := by decide +kernel
theorem dX9_reckonRange_485 : decode cX9_reckonRange 485 = .ok (.ladd, 1) := by decide +kernel
theorem dX9_reckonRange_486 : decode cX9_reckonRange 486 = .ok (.lload 7, 2) := by decide +kernel
theorem dX9_reckonRange_488 : decode cX9_reckonRange 488 = .ok (.lload 11, 2) := by decide +kernel
theorem dX9_reckonRange_490 : decode cX9_reckonRange 490 = .ok (.ladd, 1) := by decide +kernel
theorem dX9_reckonRange_491 : decode cX9_reckonRange 491 = .ok (.invokevirtual 393, 3) := by decide +kernel
theorem dX9_reckonRange_494 : decode cX9_reckonRange 494 = .ok (.goto 325, 3) := by decide +kernel
theorem dX9_reckonRange_497 : decode cX9_reckonRange 497 = .ok (.lload 5, 2) := by decide +kernel
theorem dX9_reckonRange_499 : decode cX9_reckonRange 499 = .ok (.lload 11, 2) := by decide +kernel
theorem dX9_reckonRange_501 : decode cX9_reckonRange 501 = .ok (.invokestatic 175, 3) := by decide +kernel
theorem dX9_reckonRange_504 : decode cX9_reckonRange 504 = .ok (.ifCond .ne 315, 3) := by decide +kernel
theorem dX9_reckonRange_507 : decode cX9_reckonRange 507 = .ok (.aload_n 0, 1) := by decide +kernel
theorem dX9_reckonRange_508 : decode cX9_reckonRange 508 = .ok (.iload 4, 2) := by decide +kernel
theorem dX9_reckonRange_510 : decode cX9_reckonRange 510 = .ok (.lload 5, 2) := by decide +kernel
theorem dX9_reckonRange_512 : decode cX9_reckonRange 512 = .ok (.lload 11, 2) := by decide +kernel
theorem dX9_reckonRange_514 : decode cX9_reckonRange 514 = .ok (.lsub, 1) := by decide +kernel
theorem dX9_reckonRange_515 : decode cX9_reckonRange 515 = .ok (.lload 7, 2) := by decide +kernel
theorem dX9_reckonRange_517 : decode cX9_reckonRange 517 = .ok (.lload 9, 2) := by decide +kernel
theorem dX9_reckonRange_519 : decode cX9_reckonRange 519 = .ok (.lsub, 1) := by decide +kernel
theorem dX9_reckonRange_520 : decode cX9_reckonRange 520 = .ok (.invokevirtual 393, 3) := by decide +kernel
theorem dX9_reckonRange_523 : decode cX9_reckonRange 523 = .ok (.goto 296, 3) := by decide +kernel
theorem dX9_reckonRange_526 : decode cX9_reckonRange 526 = .ok (.ldc2_w 192, 3) := by decide +kernel
theorem dX9_reckonRange_529 : decode cX9_reckonRange 529 = .ok (.lload 7, 2) := by decide +kernel
theorem dX9_reckonRange_531 : decode cX9_reckonRange 531 = .ok (.invokestatic 175, 3) := by decide +kernel
theorem dX9_reckonRange_534 : decode cX9_reckonRange 534 = .ok (.ifCond .ne 285, 3) := by decide +kernel
theorem dX9_reckonRange_537 : decode cX9_reckonRange 537 = .ok (.ldc2_w 192, 3) := by decide +kernel
theorem dX9_reckonRange_540 : decode cX9_reckonRange 540 = .ok (.lload 11, 2) := by decide +kernel
theorem dX9_reckonRange_542 : decode cX9_reckonRange 542 = .ok (.invokestatic 175, 3) := by decide +kernel
theorem dX9_reckonRange_545 : decode cX9_reckonRange 545 = .ok (.ifCond .ne 274, 3) := by decide +kernel
theorem dX9_reckonRange_548 : decode cX9_reckonRange 548 = .ok (.lload 18, 2) := by decide +kernel
theorem dX9_reckonRange_550 : decode cX9_reckonRange 550 = .ok (.lload 7, 2) := by decide +kernel
theorem dX9_reckonRange_552 : decode cX9_reckonRange 552 = .ok (.lload 11, 2) := by decide +kernel
theorem dX9_reckonRange_554 : decode cX9_reckonRange 554 = .ok (.lmul, 1) := by decide +kernel
theorem dX9_reckonRange_555 : decode cX9_reckonRange 555 = .ok (.invokestatic 175, 3) := by decide +kernel
theorem dX9_reckonRange_558 : decode cX9_reckonRange 558 = .ok (.ifCond .ne 261, 3) := by decide +kernel
theorem dX9_reckonRange_561 : decode cX9_reckonRange 561 = .ok (.aload_n 0, 1) := by decide +kernel
theorem dX9_reckonRange_562 : decode cX9_reckonRange 562 = .ok (.iload 4, 2) := by decide +kernel
theorem dX9_reckonRange_564 : decode cX9_reckonRange 564 = .ok (.lload 5, 2) := by decide +kernel
theorem dX9_reckonRange_566 : decode cX9_reckonRange 566 = .ok (.lload 9, 2) := by decide +kernel
theorem dX9_reckonRange_568 : decode cX9_reckonRange 568 = .ok (.lmul, 1) := by decide +kernel
theorem dX9_reckonRange_569 : decode cX9_reckonRange 569 = .ok (.lload 7, 2) := by decide +kernel
theorem dX9_reckonRange_571 : decode cX9_reckonRange 571 = .ok (.lload 11, 2) := by decide +kernel
theorem dX9_reckonRange_573 : decode cX9_reckonRange 573 = .ok (.lmul, 1) := by decide +kernel
theorem dX9_reckonRange_574 : decode cX9_reckonRange 574 = .ok (.invokevirtual 393, 3) := by decide +kernel
theorem dX9_reckonRange_577 : decode cX9_reckonRange 577 = .ok (.goto 242, 3) := by decide +kernel
theorem dX9_reckonRange_580 : decode cX9_reckonRange 580 = .ok (.aload_n 0, 1) := by decide +kernel
theorem dX9_reckonRange_581 : decode cX9_reckonRange 581 = .ok (.getfield 19, 3) := by decide +kernel
theorem dX9_reckonRange_584 : decode cX9_reckonRange 584 = .ok (.iload_n 1, 1) := by decide +kernel
theorem dX9_reckonRange_585 : decode cX9_reckonRange 585 = .ok (.iaload, 1) := by decide +kernel
theorem dX9_reckonRange_586 : decode cX9_reckonRange 586 = .ok (.ifCond .ne 233, 3) := by decide +kernel
theorem dX9_reckonRange_589 : decode cX9_reckonRange 589 = .ok (.iload 21, 2) := by decide +kernel
theorem dX9_reckonRange_591 : decode cX9_reckonRange 591 = .ok (.ifCond .eq 14, 3) := by decide +kernel
theorem dX9_reckonRange_594 : decode cX9_reckonRange 594 = .ok (.lload 11, 2) := by decide +kernel
