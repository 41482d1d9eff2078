/-! p29: the law's instructions. -/
theorem dL_refuses_488 : decode cL_refuses 488 = .ok (.iconst 2, 1) := by decide +kernel
theorem dL_refuses_489 : decode cL_refuses 489 = .ok (.irem, 1) := by decide +kernel
theorem dL_refuses_490 : decode cL_refuses 490 = .ok (.ifCond .ne 7, 3) := by decide +kernel
theorem dL_refuses_493 : decode cL_refuses 493 = .ok (.iconst (-1), 1) := by decide +kernel
theorem dL_refuses_494 : decode cL_refuses 494 = .ok (.goto 10, 3) := by decide +kernel
theorem dL_refuses_497 : decode cL_refuses 497 = .ok (.bipush 10, 2) := by decide +kernel
theorem dL_refuses_499 : decode cL_refuses 499 = .ok (.iload_n 1, 1) := by decide +kernel
theorem dL_refuses_500 : decode cL_refuses 500 = .ok (.bipush 9, 2) := by decide +kernel
theorem dL_refuses_502 : decode cL_refuses 502 = .ok (.irem, 1) := by decide +kernel
theorem dL_refuses_503 : decode cL_refuses 503 = .ok (.iadd, 1) := by decide +kernel
theorem dL_refuses_504 : decode cL_refuses 504 = .ok (.iconst 0, 1) := by decide +kernel
theorem dL_refuses_505 : decode cL_refuses 505 = .ok (.invokestatic 164, 3) := by decide +kernel
theorem dL_refuses_508 : decode cL_refuses 508 = .ok (.ldc 15, 2) := by decide +kernel
theorem dL_refuses_510 : decode cL_refuses 510 = .ok (.if_icmp .ne 245, 3) := by decide +kernel
theorem dL_refuses_513 : decode cL_refuses 513 = .ok (.aload_n 0, 1) := by decide +kernel
theorem dL_refuses_514 : decode cL_refuses 514 = .ok (.bipush 13, 2) := by decide +kernel
theorem dL_refuses_516 : decode cL_refuses 516 = .ok (.iconst 2, 1) := by decide +kernel
theorem dL_refuses_517 : decode cL_refuses 517 = .ok (.iload_n 1, 1) := by decide +kernel
theorem dL_refuses_518 : decode cL_refuses 518 = .ok (.iconst 2, 1) := by decide +kernel
theorem dL_refuses_519 : decode cL_refuses 519 = .ok (.irem, 1) := by decide +kernel
theorem dL_refuses_520 : decode cL_refuses 520 = .ok (.ifCond .ne 7, 3) := by decide +kernel
theorem dL_refuses_523 : decode cL_refuses 523 = .ok (.iconst (-1), 1) := by decide +kernel
theorem dL_refuses_524 : decode cL_refuses 524 = .ok (.goto 10, 3) := by decide +kernel
theorem dL_refuses_527 : decode cL_refuses 527 = .ok (.bipush 61, 2) := by decide +kernel
theorem dL_refuses_529 : decode cL_refuses 529 = .ok (.iload_n 1, 1) := by decide +kernel
theorem dL_refuses_530 : decode cL_refuses 530 = .ok (.bipush 9, 2) := by decide +kernel
theorem dL_refuses_532 : decode cL_refuses 532 = .ok (.irem, 1) := by decide +kernel
theorem dL_refuses_533 : decode cL_refuses 533 = .ok (.iadd, 1) := by decide +kernel
theorem dL_refuses_534 : decode cL_refuses 534 = .ok (.iconst 0, 1) := by decide +kernel
theorem dL_refuses_535 : decode cL_refuses 535 = .ok (.invokestatic 164, 3) := by decide +kernel
theorem dL_refuses_538 : decode cL_refuses 538 = .ok (.ldc 15, 2) := by decide +kernel
theorem dL_refuses_540 : decode cL_refuses 540 = .ok (.if_icmp .ne 215, 3) := by decide +kernel
theorem dL_refuses_543 : decode cL_refuses 543 = .ok (.aload_n 0, 1) := by decide +kernel
theorem dL_refuses_544 : decode cL_refuses 544 = .ok (.bipush 13, 2) := by decide +kernel
theorem dL_refuses_546 : decode cL_refuses 546 = .ok (.iconst 3, 1) := by decide +kernel
theorem dL_refuses_547 : decode cL_refuses 547 = .ok (.iload_n 1, 1) := by decide +kernel
theorem dL_refuses_548 : decode cL_refuses 548 = .ok (.bipush 9, 2) := by decide +kernel
theorem dL_refuses_550 : decode cL_refuses 550 = .ok (.irem, 1) := by decide +kernel
theorem dL_refuses_551 : decode cL_refuses 551 = .ok (.iadd, 1) := by decide +kernel
theorem dL_refuses_552 : decode cL_refuses 552 = .ok (.iconst 0, 1) := by decide +kernel
theorem dL_refuses_553 : decode cL_refuses 553 = .ok (.iconst 0, 1) := by decide +kernel
theorem dL_refuses_554 : decode cL_refuses 554 = .ok (.invokestatic 164, 3) := by decide +kernel
theorem dL_refuses_557 : decode cL_refuses 557 = .ok (.ldc 15, 2) := by decide +kernel
theorem dL_refuses_559 : decode cL_refuses 559 = .ok (.if_icmp .ne 196, 3) := by decide +kernel
theorem dL_refuses_562 : decode cL_refuses 562 = .ok (.aload_n 0, 1) := by decide +kernel
theorem dL_refuses_563 : decode cL_refuses 563 = .ok (.bipush 15, 2) := by decide +kernel
theorem dL_refuses_565 : decode cL_refuses 565 = .ok (.iload 6, 2) := by decide +kernel
theorem dL_refuses_567 : decode cL_refuses 567 = .ok (.iconst 0, 1) := by decide +kernel
theorem dL_refuses_568 : decode cL_refuses 568 = .ok (.iconst 0, 1) := by decide +kernel
theorem dL_refuses_569 : decode cL_refuses 569 = .ok (.invokestatic 164, 3) := by decide +kernel
