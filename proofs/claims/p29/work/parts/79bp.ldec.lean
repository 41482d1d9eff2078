/-! p29: the law's instructions. -/
theorem dL_goes_468 : decode cL_goes 468 = .ok (.isub, 1) := by decide +kernel
theorem dL_goes_469 : decode cL_goes 469 = .ok (.istore 13, 2) := by decide +kernel
theorem dL_goes_471 : decode cL_goes 471 = .ok (.iload 13, 2) := by decide +kernel
theorem dL_goes_473 : decode cL_goes 473 = .ok (.ifCond .le 51, 3) := by decide +kernel
theorem dL_goes_476 : decode cL_goes 476 = .ok (.iload 8, 2) := by decide +kernel
theorem dL_goes_478 : decode cL_goes 478 = .ok (.ifCond .eq 46, 3) := by decide +kernel
theorem dL_goes_481 : decode cL_goes 481 = .ok (.aload_n 0, 1) := by decide +kernel
theorem dL_goes_482 : decode cL_goes 482 = .ok (.bipush 14, 2) := by decide +kernel
theorem dL_goes_484 : decode cL_goes 484 = .ok (.iconst 0, 1) := by decide +kernel
theorem dL_goes_485 : decode cL_goes 485 = .ok (.iconst 0, 1) := by decide +kernel
theorem dL_goes_486 : decode cL_goes 486 = .ok (.iconst 0, 1) := by decide +kernel
theorem dL_goes_487 : decode cL_goes 487 = .ok (.invokestatic 164, 3) := by decide +kernel
theorem dL_goes_490 : decode cL_goes 490 = .ok (.invokestatic 214, 3) := by decide +kernel
theorem dL_goes_493 : decode cL_goes 493 = .ok (.ifCond .ne 22, 3) := by decide +kernel
theorem dL_goes_496 : decode cL_goes 496 = .ok (.aload_n 1, 1) := by decide +kernel
theorem dL_goes_497 : decode cL_goes 497 = .ok (.bipush 14, 2) := by decide +kernel
theorem dL_goes_499 : decode cL_goes 499 = .ok (.iconst 0, 1) := by decide +kernel
theorem dL_goes_500 : decode cL_goes 500 = .ok (.iconst 0, 1) := by decide +kernel
theorem dL_goes_501 : decode cL_goes 501 = .ok (.iconst 0, 1) := by decide +kernel
theorem dL_goes_502 : decode cL_goes 502 = .ok (.invokestatic 164, 3) := by decide +kernel
theorem dL_goes_505 : decode cL_goes 505 = .ok (.invokestatic 214, 3) := by decide +kernel
theorem dL_goes_508 : decode cL_goes 508 = .ok (.ifCond .ne 7, 3) := by decide +kernel
theorem dL_goes_511 : decode cL_goes 511 = .ok (.iconst 1, 1) := by decide +kernel
theorem dL_goes_512 : decode cL_goes 512 = .ok (.goto 4, 3) := by decide +kernel
theorem dL_goes_515 : decode cL_goes 515 = .ok (.iconst 0, 1) := by decide +kernel
theorem dL_goes_516 : decode cL_goes 516 = .ok (.istore 8, 2) := by decide +kernel
theorem dL_goes_518 : decode cL_goes 518 = .ok (.iinc 13 (-1), 3) := by decide +kernel
theorem dL_goes_521 : decode cL_goes 521 = .ok (.goto (-50), 3) := by decide +kernel
theorem dL_goes_524 : decode cL_goes 524 = .ok (.iload 8, 2) := by decide +kernel
theorem dL_goes_526 : decode cL_goes 526 = .ok (.ifCond .eq 34, 3) := by decide +kernel
theorem dL_goes_529 : decode cL_goes 529 = .ok (.aload_n 0, 1) := by decide +kernel
theorem dL_goes_530 : decode cL_goes 530 = .ok (.iconst 2, 1) := by decide +kernel
theorem dL_goes_531 : decode cL_goes 531 = .ok (.iconst 1, 1) := by decide +kernel
theorem dL_goes_532 : decode cL_goes 532 = .ok (.iconst 0, 1) := by decide +kernel
theorem dL_goes_533 : decode cL_goes 533 = .ok (.iconst 0, 1) := by decide +kernel
theorem dL_goes_534 : decode cL_goes 534 = .ok (.invokestatic 164, 3) := by decide +kernel
theorem dL_goes_537 : decode cL_goes 537 = .ok (.iload 9, 2) := by decide +kernel
theorem dL_goes_539 : decode cL_goes 539 = .ok (.if_icmp .ne 21, 3) := by decide +kernel
theorem dL_goes_542 : decode cL_goes 542 = .ok (.aload_n 0, 1) := by decide +kernel
theorem dL_goes_543 : decode cL_goes 543 = .ok (.iconst 2, 1) := by decide +kernel
theorem dL_goes_544 : decode cL_goes 544 = .ok (.bipush 9, 2) := by decide +kernel
theorem dL_goes_546 : decode cL_goes 546 = .ok (.iconst 0, 1) := by decide +kernel
theorem dL_goes_547 : decode cL_goes 547 = .ok (.iconst 0, 1) := by decide +kernel
theorem dL_goes_548 : decode cL_goes 548 = .ok (.invokestatic 164, 3) := by decide +kernel
theorem dL_goes_551 : decode cL_goes 551 = .ok (.iload 7, 2) := by decide +kernel
theorem dL_goes_553 : decode cL_goes 553 = .ok (.if_icmp .ne 7, 3) := by decide +kernel
theorem dL_goes_556 : decode cL_goes 556 = .ok (.iconst 1, 1) := by decide +kernel
theorem dL_goes_557 : decode cL_goes 557 = .ok (.goto 4, 3) := by decide +kernel
theorem dL_goes_560 : decode cL_goes 560 = .ok (.iconst 0, 1) := by decide +kernel
theorem dL_goes_561 : decode cL_goes 561 = .ok (.ireturn, 1) := by decide +kernel
