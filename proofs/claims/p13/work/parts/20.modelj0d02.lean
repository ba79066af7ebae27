theorem dX9_goTo_472 : decode cX9_goTo 472 = .ok (.iload 5, 2) := by decide +kernel
theorem dX9_goTo_474 : decode cX9_goTo 474 = .ok (.laload, 1) := by decide +kernel
theorem dX9_goTo_475 : decode cX9_goTo 475 = .ok (.goto 7, 3) := by decide +kernel
theorem dX9_goTo_478 : decode cX9_goTo 478 = .ok (.aload_n 0, 1) := by decide +kernel
theorem dX9_goTo_479 : decode cX9_goTo 479 = .ok (.getfield 335, 3) := by decide +kernel
theorem dX9_goTo_482 : decode cX9_goTo 482 = .ok (.lastore, 1) := by decide +kernel
theorem dX9_goTo_483 : decode cX9_goTo 483 = .ok (.aload_n 0, 1) := by decide +kernel
theorem dX9_goTo_484 : decode cX9_goTo 484 = .ok (.getfield 100, 3) := by decide +kernel
theorem dX9_goTo_487 : decode cX9_goTo 487 = .ok (.iload 4, 2) := by decide +kernel
theorem dX9_goTo_489 : decode cX9_goTo 489 = .ok (.aload_n 0, 1) := by decide +kernel
theorem dX9_goTo_490 : decode cX9_goTo 490 = .ok (.getfield 115, 3) := by decide +kernel
theorem dX9_goTo_493 : decode cX9_goTo 493 = .ok (.iload 5, 2) := by decide +kernel
theorem dX9_goTo_495 : decode cX9_goTo 495 = .ok (.iaload, 1) := by decide +kernel
theorem dX9_goTo_496 : decode cX9_goTo 496 = .ok (.iastore, 1) := by decide +kernel
theorem dX9_goTo_497 : decode cX9_goTo 497 = .ok (.aload_n 0, 1) := by decide +kernel
theorem dX9_goTo_498 : decode cX9_goTo 498 = .ok (.getfield 103, 3) := by decide +kernel
theorem dX9_goTo_501 : decode cX9_goTo 501 = .ok (.iload 4, 2) := by decide +kernel
theorem dX9_goTo_503 : decode cX9_goTo 503 = .ok (.aload_n 0, 1) := by decide +kernel
theorem dX9_goTo_504 : decode cX9_goTo 504 = .ok (.getfield 118, 3) := by decide +kernel
theorem dX9_goTo_507 : decode cX9_goTo 507 = .ok (.iload 5, 2) := by decide +kernel
theorem dX9_goTo_509 : decode cX9_goTo 509 = .ok (.iaload, 1) := by decide +kernel
theorem dX9_goTo_510 : decode cX9_goTo 510 = .ok (.iastore, 1) := by decide +kernel
theorem dX9_goTo_511 : decode cX9_goTo 511 = .ok (.iinc 3 1, 3) := by decide +kernel
theorem dX9_goTo_514 : decode cX9_goTo 514 = .ok (.goto (-237), 3) := by decide +kernel
theorem dX9_goTo_517 : decode cX9_goTo 517 = .ok (.iconst 0, 1) := by decide +kernel
theorem dX9_goTo_518 : decode cX9_goTo 518 = .ok (.istore_n 3, 1) := by decide +kernel
theorem dX9_goTo_519 : decode cX9_goTo 519 = .ok (.iload_n 3, 1) := by decide +kernel
theorem dX9_goTo_520 : decode cX9_goTo 520 = .ok (.sipush 512, 3) := by decide +kernel
theorem dX9_goTo_523 : decode cX9_goTo 523 = .ok (.if_icmp .ge 53, 3) := by decide +kernel
theorem dX9_goTo_526 : decode cX9_goTo 526 = .ok (.sipush 512, 3) := by decide +kernel
theorem dX9_goTo_529 : decode cX9_goTo 529 = .ok (.iload_n 1, 1) := by decide +kernel
theorem dX9_goTo_530 : decode cX9_goTo 530 = .ok (.imul, 1) := by decide +kernel
theorem dX9_goTo_531 : decode cX9_goTo 531 = .ok (.iload_n 3, 1) := by decide +kernel
theorem dX9_goTo_532 : decode cX9_goTo 532 = .ok (.iadd, 1) := by decide +kernel
theorem dX9_goTo_533 : decode cX9_goTo 533 = .ok (.istore 4, 2) := by decide +kernel
theorem dX9_goTo_535 : decode cX9_goTo 535 = .ok (.aload_n 0, 1) := by decide +kernel
theorem dX9_goTo_536 : decode cX9_goTo 536 = .ok (.getfield 88, 3) := by decide +kernel
theorem dX9_goTo_539 : decode cX9_goTo 539 = .ok (.iload 4, 2) := by decide +kernel
theorem dX9_goTo_541 : decode cX9_goTo 541 = .ok (.aload_n 0, 1) := by decide +kernel
theorem dX9_goTo_542 : decode cX9_goTo 542 = .ok (.getfield 121, 3) := by decide +kernel
theorem dX9_goTo_545 : decode cX9_goTo 545 = .ok (.iload_n 3, 1) := by decide +kernel
theorem dX9_goTo_546 : decode cX9_goTo 546 = .ok (.baload, 1) := by decide +kernel
theorem dX9_goTo_547 : decode cX9_goTo 547 = .ok (.ifCond .eq 21, 3) := by decide +kernel
theorem dX9_goTo_550 : decode cX9_goTo 550 = .ok (.iload_n 2, 1) := by decide +kernel
theorem dX9_goTo_551 : decode cX9_goTo 551 = .ok (.ifCond .ne 13, 3) := by decide +kernel
theorem dX9_goTo_554 : decode cX9_goTo 554 = .ok (.aload_n 0, 1) := by decide +kernel
theorem dX9_goTo_555 : decode cX9_goTo 555 = .ok (.getfield 88, 3) := by decide +kernel
theorem dX9_goTo_558 : decode cX9_goTo 558 = .ok (.iload 4, 2) := by decide +kernel
theorem dX9_goTo_560 : decode cX9_goTo 560 = .ok (.baload, 1) := by decide +kernel
theorem dX9_goTo_561 : decode cX9_goTo 561 = .ok (.ifCond .eq 7, 3) := by decide +kernel
theorem dX9_goTo_564 : decode cX9_goTo 564 = .ok (.iconst 1, 1) := by decide +kernel
theorem dX9_goTo_565 : decode cX9_goTo 565 = .ok (.goto 4, 3) := by decide +kernel
theorem dX9_goTo_568 : decode cX9_goTo 568 = .ok (.iconst 0, 1) := by decide +kernel
theorem dX9_goTo_569 : decode cX9_goTo 569 = .ok (.bastore, 1) := by decide +kernel
theorem dX9_goTo_570 : decode cX9_goTo 570 = .ok (.iinc 3 1, 3) := by decide +kernel
theorem dX9_goTo_573 : decode cX9_goTo 573 = .ok (.goto (-54), 3) := by decide +kernel
theorem dX9_goTo_576 : decode cX9_goTo 576 = .ok (.return_, 1) := by decide +kernel
