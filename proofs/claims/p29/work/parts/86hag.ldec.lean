/-! p29: the law's instructions. -/
theorem dL_holds_534 : decode cL_holds 534 = .ok (.iload 18, 2) := by decide +kernel
theorem dL_holds_536 : decode cL_holds 536 = .ok (.iload 17, 2) := by decide +kernel
theorem dL_holds_538 : decode cL_holds 538 = .ok (.invokestatic 184, 3) := by decide +kernel
theorem dL_holds_541 : decode cL_holds 541 = .ok (.ifCond .eq 33, 3) := by decide +kernel
theorem dL_holds_544 : decode cL_holds 544 = .ok (.iload 18, 2) := by decide +kernel
theorem dL_holds_546 : decode cL_holds 546 = .ok (.ifCond .eq 24, 3) := by decide +kernel
theorem dL_holds_549 : decode cL_holds 549 = .ok (.iload 18, 2) := by decide +kernel
theorem dL_holds_551 : decode cL_holds 551 = .ok (.iconst (-1), 1) := by decide +kernel
theorem dL_holds_552 : decode cL_holds 552 = .ok (.if_icmp .eq 18, 3) := by decide +kernel
theorem dL_holds_555 : decode cL_holds 555 = .ok (.aload_n 0, 1) := by decide +kernel
theorem dL_holds_556 : decode cL_holds 556 = .ok (.iload 16, 2) := by decide +kernel
theorem dL_holds_558 : decode cL_holds 558 = .ok (.iload_n 1, 1) := by decide +kernel
theorem dL_holds_559 : decode cL_holds 559 = .ok (.iload 18, 2) := by decide +kernel
theorem dL_holds_561 : decode cL_holds 561 = .ok (.irem, 1) := by decide +kernel
theorem dL_holds_562 : decode cL_holds 562 = .ok (.iload 17, 2) := by decide +kernel
theorem dL_holds_564 : decode cL_holds 564 = .ok (.invokestatic 184, 3) := by decide +kernel
theorem dL_holds_567 : decode cL_holds 567 = .ok (.ifCond .ne 7, 3) := by decide +kernel
theorem dL_holds_570 : decode cL_holds 570 = .ok (.iconst 1, 1) := by decide +kernel
theorem dL_holds_571 : decode cL_holds 571 = .ok (.goto 4, 3) := by decide +kernel
theorem dL_holds_574 : decode cL_holds 574 = .ok (.iconst 0, 1) := by decide +kernel
theorem dL_holds_575 : decode cL_holds 575 = .ok (.istore 9, 2) := by decide +kernel
theorem dL_holds_577 : decode cL_holds 577 = .ok (.iinc 16 1, 3) := by decide +kernel
theorem dL_holds_580 : decode cL_holds 580 = .ok (.goto (-196), 3) := by decide +kernel
theorem dL_holds_583 : decode cL_holds 583 = .ok (.iconst 0, 1) := by decide +kernel
theorem dL_holds_584 : decode cL_holds 584 = .ok (.istore 16, 2) := by decide +kernel
theorem dL_holds_586 : decode cL_holds 586 = .ok (.iload 16, 2) := by decide +kernel
theorem dL_holds_588 : decode cL_holds 588 = .ok (.iload_n 3, 1) := by decide +kernel
theorem dL_holds_589 : decode cL_holds 589 = .ok (.if_icmp .ge 102, 3) := by decide +kernel
theorem dL_holds_592 : decode cL_holds 592 = .ok (.iload 9, 2) := by decide +kernel
theorem dL_holds_594 : decode cL_holds 594 = .ok (.ifCond .eq 97, 3) := by decide +kernel
theorem dL_holds_597 : decode cL_holds 597 = .ok (.aload_n 0, 1) := by decide +kernel
theorem dL_holds_598 : decode cL_holds 598 = .ok (.iconst 4, 1) := by decide +kernel
theorem dL_holds_599 : decode cL_holds 599 = .ok (.iload 16, 2) := by decide +kernel
theorem dL_holds_601 : decode cL_holds 601 = .ok (.iconst 3, 1) := by decide +kernel
theorem dL_holds_602 : decode cL_holds 602 = .ok (.iconst 0, 1) := by decide +kernel
theorem dL_holds_603 : decode cL_holds 603 = .ok (.invokestatic 164, 3) := by decide +kernel
theorem dL_holds_606 : decode cL_holds 606 = .ok (.istore 17, 2) := by decide +kernel
theorem dL_holds_608 : decode cL_holds 608 = .ok (.iload 17, 2) := by decide +kernel
theorem dL_holds_610 : decode cL_holds 610 = .ok (.ifCond .le 7, 3) := by decide +kernel
theorem dL_holds_613 : decode cL_holds 613 = .ok (.iconst 1, 1) := by decide +kernel
theorem dL_holds_614 : decode cL_holds 614 = .ok (.goto 4, 3) := by decide +kernel
theorem dL_holds_617 : decode cL_holds 617 = .ok (.iconst 0, 1) := by decide +kernel
theorem dL_holds_618 : decode cL_holds 618 = .ok (.aload_n 0, 1) := by decide +kernel
theorem dL_holds_619 : decode cL_holds 619 = .ok (.iconst 4, 1) := by decide +kernel
theorem dL_holds_620 : decode cL_holds 620 = .ok (.iload 16, 2) := by decide +kernel
theorem dL_holds_622 : decode cL_holds 622 = .ok (.iconst 0, 1) := by decide +kernel
theorem dL_holds_623 : decode cL_holds 623 = .ok (.iconst 0, 1) := by decide +kernel
theorem dL_holds_624 : decode cL_holds 624 = .ok (.invokestatic 164, 3) := by decide +kernel
theorem dL_holds_627 : decode cL_holds 627 = .ok (.iconst 1, 1) := by decide +kernel
theorem dL_holds_628 : decode cL_holds 628 = .ok (.if_icmp .ne 7, 3) := by decide +kernel
