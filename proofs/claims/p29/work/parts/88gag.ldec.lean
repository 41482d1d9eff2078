/-! p29: the law's instructions. -/
theorem dL_goes_532 : decode cL_goes 532 = .ok (.iconst 0, 1) := by decide +kernel
theorem dL_goes_533 : decode cL_goes 533 = .ok (.iconst 0, 1) := by decide +kernel
theorem dL_goes_534 : decode cL_goes 534 = .ok (.invokestatic 164, 3) := by decide +kernel
theorem dL_goes_537 : decode cL_goes 537 = .ok (.iload 9, 2) := by decide +kernel
theorem dL_goes_539 : decode cL_goes 539 = .ok (.if_icmp .ne 21, 3) := by decide +kernel
theorem dL_goes_542 : decode cL_goes 542 = .ok (.aload_n 0, 1) := by decide +kernel
theorem dL_goes_543 : decode cL_goes 543 = .ok (.iconst 2, 1) := by decide +kernel
theorem dL_goes_544 : decode cL_goes 544 = .ok (.bipush 9, 2) := by decide +kernel
theorem dL_goes_546 : decode cL_goes 546 = .ok (.iconst 0, 1) := by decide +kernel
theorem dL_goes_547 : decode cL_goes 547 = .ok (.iconst 0, 1) := by decide +kernel
theorem dL_goes_548 : decode cL_goes 548 = .ok (.invokestatic 164, 3) := by decide +kernel
theorem dL_goes_551 : decode cL_goes 551 = .ok (.iload 7, 2) := by decide +kernel
theorem dL_goes_553 : decode cL_goes 553 = .ok (.if_icmp .ne 7, 3) := by decide +kernel
theorem dL_goes_556 : decode cL_goes 556 = .ok (.iconst 1, 1) := by decide +kernel
theorem dL_goes_557 : decode cL_goes 557 = .ok (.goto 4, 3) := by decide +kernel
theorem dL_goes_560 : decode cL_goes 560 = .ok (.iconst 0, 1) := by decide +kernel
theorem dL_goes_561 : decode cL_goes 561 = .ok (.ireturn, 1) := by decide +kernel
