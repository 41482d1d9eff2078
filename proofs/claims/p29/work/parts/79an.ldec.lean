/-! p29: the law's instructions. -/
theorem dL_refuses_540 : decode cL_refuses 540 = .ok (.if_icmp .ne 215, 3) := by decide +kernel
theorem dL_refuses_543 : decode cL_refuses 543 = .ok (.aload_n 0, 1) := by decide +kernel
theorem dL_refuses_544 : decode cL_refuses 544 = .ok (.bipush 13, 2) := by decide +kernel
theorem dL_refuses_546 : decode cL_refuses 546 = .ok (.iconst 3, 1) := by decide +kernel
theorem dL_refuses_547 : decode cL_refuses 547 = .ok (.iload_n 1, 1) := by decide +kernel
theorem dL_refuses_548 : decode cL_refuses 548 = .ok (.bipush 9, 2) := by decide +kernel
theorem dL_refuses_550 : decode cL_refuses 550 = .ok (.irem, 1) := by decide +kernel
theorem dL_refuses_551 : decode cL_refuses 551 = .ok (.iadd, 1) := by decide +kernel
theorem dL_refuses_552 : decode cL_refuses 552 = .ok (.iconst 0, 1) := by decide +kernel
theorem dL_refuses_553 : decode cL_refuses 553 = .ok (.iconst 0, 1) := by decide +kernel
theorem dL_refuses_554 : decode cL_refuses 554 = .ok (.invokestatic 164, 3) := by decide +kernel
theorem dL_refuses_557 : decode cL_refuses 557 = .ok (.ldc 15, 2) := by decide +kernel
theorem dL_refuses_559 : decode cL_refuses 559 = .ok (.if_icmp .ne 196, 3) := by decide +kernel
theorem dL_refuses_562 : decode cL_refuses 562 = .ok (.aload_n 0, 1) := by decide +kernel
theorem dL_refuses_563 : decode cL_refuses 563 = .ok (.bipush 15, 2) := by decide +kernel
theorem dL_refuses_565 : decode cL_refuses 565 = .ok (.iload 6, 2) := by decide +kernel
theorem dL_refuses_567 : decode cL_refuses 567 = .ok (.iconst 0, 1) := by decide +kernel
theorem dL_refuses_568 : decode cL_refuses 568 = .ok (.iconst 0, 1) := by decide +kernel
theorem dL_refuses_569 : decode cL_refuses 569 = .ok (.invokestatic 164, 3) := by decide +kernel
theorem dL_refuses_572 : decode cL_refuses 572 = .ok (.ldc 40, 2) := by decide +kernel
theorem dL_refuses_574 : decode cL_refuses 574 = .ok (.if_icmp .ne 181, 3) := by decide +kernel
theorem dL_refuses_577 : decode cL_refuses 577 = .ok (.aload_n 0, 1) := by decide +kernel
theorem dL_refuses_578 : decode cL_refuses 578 = .ok (.bipush 16, 2) := by decide +kernel
theorem dL_refuses_580 : decode cL_refuses 580 = .ok (.iload 4, 2) := by decide +kernel
theorem dL_refuses_582 : decode cL_refuses 582 = .ok (.iconst 0, 1) := by decide +kernel
theorem dL_refuses_583 : decode cL_refuses 583 = .ok (.iconst 0, 1) := by decide +kernel
theorem dL_refuses_584 : decode cL_refuses 584 = .ok (.invokestatic 164, 3) := by decide +kernel
theorem dL_refuses_587 : decode cL_refuses 587 = .ok (.ldc 40, 2) := by decide +kernel
theorem dL_refuses_589 : decode cL_refuses 589 = .ok (.if_icmp .ne 166, 3) := by decide +kernel
theorem dL_refuses_592 : decode cL_refuses 592 = .ok (.aload_n 0, 1) := by decide +kernel
theorem dL_refuses_593 : decode cL_refuses 593 = .ok (.bipush 17, 2) := by decide +kernel
theorem dL_refuses_595 : decode cL_refuses 595 = .ok (.iload_n 1, 1) := by decide +kernel
theorem dL_refuses_596 : decode cL_refuses 596 = .ok (.iconst 2, 1) := by decide +kernel
theorem dL_refuses_597 : decode cL_refuses 597 = .ok (.irem, 1) := by decide +kernel
theorem dL_refuses_598 : decode cL_refuses 598 = .ok (.ifCond .ne 7, 3) := by decide +kernel
theorem dL_refuses_601 : decode cL_refuses 601 = .ok (.iconst 0, 1) := by decide +kernel
theorem dL_refuses_602 : decode cL_refuses 602 = .ok (.goto 10, 3) := by decide +kernel
theorem dL_refuses_605 : decode cL_refuses 605 = .ok (.bipush 100, 2) := by decide +kernel
theorem dL_refuses_607 : decode cL_refuses 607 = .ok (.iload_n 1, 1) := by decide +kernel
theorem dL_refuses_608 : decode cL_refuses 608 = .ok (.bipush 9, 2) := by decide +kernel
theorem dL_refuses_610 : decode cL_refuses 610 = .ok (.irem, 1) := by decide +kernel
theorem dL_refuses_611 : decode cL_refuses 611 = .ok (.iadd, 1) := by decide +kernel
theorem dL_refuses_612 : decode cL_refuses 612 = .ok (.iconst 0, 1) := by decide +kernel
theorem dL_refuses_613 : decode cL_refuses 613 = .ok (.iconst 0, 1) := by decide +kernel
theorem dL_refuses_614 : decode cL_refuses 614 = .ok (.invokestatic 164, 3) := by decide +kernel
theorem dL_refuses_617 : decode cL_refuses 617 = .ok (.ldc 15, 2) := by decide +kernel
theorem dL_refuses_619 : decode cL_refuses 619 = .ok (.if_icmp .ne 136, 3) := by decide +kernel
theorem dL_refuses_622 : decode cL_refuses 622 = .ok (.aload_n 0, 1) := by decide +kernel
theorem dL_refuses_623 : decode cL_refuses 623 = .ok (.bipush 18, 2) := by decide +kernel
theorem dL_refuses_625 : decode cL_refuses 625 = .ok (.iload 4, 2) := by decide +kernel
