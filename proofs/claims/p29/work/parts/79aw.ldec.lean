/-! p29: the law's instructions. -/
theorem dL_holds_492 : decode cL_holds 492 = .ok (.iload 18, 2) := by decide +kernel
theorem dL_holds_494 : decode cL_holds 494 = .ok (.iconst (-1), 1) := by decide +kernel
theorem dL_holds_495 : decode cL_holds 495 = .ok (.if_icmp .ne 18, 3) := by decide +kernel
theorem dL_holds_498 : decode cL_holds 498 = .ok (.aload_n 0, 1) := by decide +kernel
theorem dL_holds_499 : decode cL_holds 499 = .ok (.iconst 5, 1) := by decide +kernel
theorem dL_holds_500 : decode cL_holds 500 = .ok (.iload 16, 2) := by decide +kernel
theorem dL_holds_502 : decode cL_holds 502 = .ok (.iconst 1, 1) := by decide +kernel
theorem dL_holds_503 : decode cL_holds 503 = .ok (.iconst 0, 1) := by decide +kernel
theorem dL_holds_504 : decode cL_holds 504 = .ok (.invokestatic 164, 3) := by decide +kernel
theorem dL_holds_507 : decode cL_holds 507 = .ok (.ifCond .le 67, 3) := by decide +kernel
theorem dL_holds_510 : decode cL_holds 510 = .ok (.goto 15, 3) := by decide +kernel
theorem dL_holds_513 : decode cL_holds 513 = .ok (.iload 18, 2) := by decide +kernel
theorem dL_holds_515 : decode cL_holds 515 = .ok (.ifCond .lt 59, 3) := by decide +kernel
theorem dL_holds_518 : decode cL_holds 518 = .ok (.iload 18, 2) := by decide +kernel
theorem dL_holds_520 : decode cL_holds 520 = .ok (.bipush 24, 2) := by decide +kernel
theorem dL_holds_522 : decode cL_holds 522 = .ok (.if_icmp .ge 52, 3) := by decide +kernel
theorem dL_holds_525 : decode cL_holds 525 = .ok (.iload 18, 2) := by decide +kernel
theorem dL_holds_527 : decode cL_holds 527 = .ok (.iconst (-1), 1) := by decide +kernel
theorem dL_holds_528 : decode cL_holds 528 = .ok (.if_icmp .eq 16, 3) := by decide +kernel
theorem dL_holds_531 : decode cL_holds 531 = .ok (.aload_n 0, 1) := by decide +kernel
theorem dL_holds_532 : decode cL_holds 532 = .ok (.iload 16, 2) := by decide +kernel
theorem dL_holds_534 : decode cL_holds 534 = .ok (.iload 18, 2) := by decide +kernel
theorem dL_holds_536 : decode cL_holds 536 = .ok (.iload 17, 2) := by decide +kernel
theorem dL_holds_538 : decode cL_holds 538 = .ok (.invokestatic 184, 3) := by decide +kernel
theorem dL_holds_541 : decode cL_holds 541 = .ok (.ifCond .eq 33, 3) := by decide +kernel
theorem dL_holds_544 : decode cL_holds 544 = .ok (.iload 18, 2) := by decide +kernel
theorem dL_holds_546 : decode cL_holds 546 = .ok (.ifCond .eq 24, 3) := by decide +kernel
theorem dL_holds_549 : decode cL_holds 549 = .ok (.iload 18, 2) := by decide +kernel
theorem dL_holds_551 : decode cL_holds 551 = .ok (.iconst (-1), 1) := by decide +kernel
theorem dL_holds_552 : decode cL_holds 552 = .ok (.if_icmp .eq 18, 3) := by decide +kernel
theorem dL_holds_555 : decode cL_holds 555 = .ok (.aload_n 0, 1) := by decide +kernel
theorem dL_holds_556 : decode cL_holds 556 = .ok (.iload 16, 2) := by decide +kernel
theorem dL_holds_558 : decode cL_holds 558 = .ok (.iload_n 1, 1) := by decide +kernel
theorem dL_holds_559 : decode cL_holds 559 = .ok (.iload 18, 2) := by decide +kernel
theorem dL_holds_561 : decode cL_holds 561 = .ok (.irem, 1) := by decide +kernel
theorem dL_holds_562 : decode cL_holds 562 = .ok (.iload 17, 2) := by decide +kernel
theorem dL_holds_564 : decode cL_holds 564 = .ok (.invokestatic 184, 3) := by decide +kernel
theorem dL_holds_567 : decode cL_holds 567 = .ok (.ifCond .ne 7, 3) := by decide +kernel
theorem dL_holds_570 : decode cL_holds 570 = .ok (.iconst 1, 1) := by decide +kernel
theorem dL_holds_571 : decode cL_holds 571 = .ok (.goto 4, 3) := by decide +kernel
theorem dL_holds_574 : decode cL_holds 574 = .ok (.iconst 0, 1) := by decide +kernel
theorem dL_holds_575 : decode cL_holds 575 = .ok (.istore 9, 2) := by decide +kernel
theorem dL_holds_577 : decode cL_holds 577 = .ok (.iinc 16 1, 3) := by decide +kernel
theorem dL_holds_580 : decode cL_holds 580 = .ok (.goto (-196), 3) := by decide +kernel
theorem dL_holds_583 : decode cL_holds 583 = .ok (.iconst 0, 1) := by decide +kernel
theorem dL_holds_584 : decode cL_holds 584 = .ok (.istore 16, 2) := by decide +kernel
theorem dL_holds_586 : decode cL_holds 586 = .ok (.iload 16, 2) := by decide +kernel
theorem dL_holds_588 : decode cL_holds 588 = .ok (.iload_n 3, 1) := by decide +kernel
theorem dL_holds_589 : decode cL_holds 589 = .ok (.if_icmp .ge 102, 3) := by decide +kernel
theorem dL_holds_592 : decode cL_holds 592 = .ok (.iload 9, 2) := by decide +kernel
