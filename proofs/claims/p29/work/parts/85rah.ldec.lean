/-! p29: the law's instructions. -/
theorem dL_refuses_572 : decode cL_refuses 572 = .ok (.ldc 40, 2) := by decide +kernel
theorem dL_refuses_574 : decode cL_refuses 574 = .ok (.if_icmp .ne 181, 3) := by decide +kernel
theorem dL_refuses_577 : decode cL_refuses 577 = .ok (.aload_n 0, 1) := by decide +kernel
theorem dL_refuses_578 : decode cL_refuses 578 = .ok (.bipush 16, 2) := by decide +kernel
theorem dL_refuses_580 : decode cL_refuses 580 = .ok (.iload 4, 2) := by decide +kernel
theorem dL_refuses_582 : decode cL_refuses 582 = .ok (.iconst 0, 1) := by decide +kernel
theorem dL_refuses_583 : decode cL_refuses 583 = .ok (.iconst 0, 1) := by decide +kernel
theorem dL_refuses_584 : decode cL_refuses 584 = .ok (.invokestatic 164, 3) := by decide +kernel
theorem dL_refuses_587 : decode cL_refuses 587 = .ok (.ldc 40, 2) := by decide +kernel
theorem dL_refuses_589 : decode cL_refuses 589 = .ok (.if_icmp .ne 166, 3) := by decide +kernel
theorem dL_refuses_592 : decode cL_refuses 592 = .ok (.aload_n 0, 1) := by decide +kernel
theorem dL_refuses_593 : decode cL_refuses 593 = .ok (.bipush 17, 2) := by decide +kernel
theorem dL_refuses_595 : decode cL_refuses 595 = .ok (.iload_n 1, 1) := by decide +kernel
theorem dL_refuses_596 : decode cL_refuses 596 = .ok (.iconst 2, 1) := by decide +kernel
theorem dL_refuses_597 : decode cL_refuses 597 = .ok (.irem, 1) := by decide +kernel
theorem dL_refuses_598 : decode cL_refuses 598 = .ok (.ifCond .ne 7, 3) := by decide +kernel
theorem dL_refuses_601 : decode cL_refuses 601 = .ok (.iconst 0, 1) := by decide +kernel
theorem dL_refuses_602 : decode cL_refuses 602 = .ok (.goto 10, 3) := by decide +kernel
theorem dL_refuses_605 : decode cL_refuses 605 = .ok (.bipush 100, 2) := by decide +kernel
theorem dL_refuses_607 : decode cL_refuses 607 = .ok (.iload_n 1, 1) := by decide +kernel
theorem dL_refuses_608 : decode cL_refuses 608 = .ok (.bipush 9, 2) := by decide +kernel
theorem dL_refuses_610 : decode cL_refuses 610 = .ok (.irem, 1) := by decide +kernel
theorem dL_refuses_611 : decode cL_refuses 611 = .ok (.iadd, 1) := by decide +kernel
theorem dL_refuses_612 : decode cL_refuses 612 = .ok (.iconst 0, 1) := by decide +kernel
theorem dL_refuses_613 : decode cL_refuses 613 = .ok (.iconst 0, 1) := by decide +kernel
theorem dL_refuses_614 : decode cL_refuses 614 = .ok (.invokestatic 164, 3) := by decide +kernel
theorem dL_refuses_617 : decode cL_refuses 617 = .ok (.ldc 15, 2) := by decide +kernel
theorem dL_refuses_619 : decode cL_refuses 619 = .ok (.if_icmp .ne 136, 3) := by decide +kernel
theorem dL_refuses_622 : decode cL_refuses 622 = .ok (.aload_n 0, 1) := by decide +kernel
theorem dL_refuses_623 : decode cL_refuses 623 = .ok (.bipush 18, 2) := by decide +kernel
theorem dL_refuses_625 : decode cL_refuses 625 = .ok (.iload 4, 2) := by decide +kernel
theorem dL_refuses_627 : decode cL_refuses 627 = .ok (.bipush 99, 2) := by decide +kernel
theorem dL_refuses_629 : decode cL_refuses 629 = .ok (.iconst 0, 1) := by decide +kernel
theorem dL_refuses_630 : decode cL_refuses 630 = .ok (.invokestatic 164, 3) := by decide +kernel
theorem dL_refuses_633 : decode cL_refuses 633 = .ok (.ldc 40, 2) := by decide +kernel
theorem dL_refuses_635 : decode cL_refuses 635 = .ok (.if_icmp .ne 120, 3) := by decide +kernel
theorem dL_refuses_638 : decode cL_refuses 638 = .ok (.aload_n 0, 1) := by decide +kernel
theorem dL_refuses_639 : decode cL_refuses 639 = .ok (.bipush 18, 2) := by decide +kernel
theorem dL_refuses_641 : decode cL_refuses 641 = .ok (.iconst 0, 1) := by decide +kernel
theorem dL_refuses_642 : decode cL_refuses 642 = .ok (.iload_n 1, 1) := by decide +kernel
theorem dL_refuses_643 : decode cL_refuses 643 = .ok (.iconst 2, 1) := by decide +kernel
theorem dL_refuses_644 : decode cL_refuses 644 = .ok (.irem, 1) := by decide +kernel
theorem dL_refuses_645 : decode cL_refuses 645 = .ok (.ifCond .ne 7, 3) := by decide +kernel
theorem dL_refuses_648 : decode cL_refuses 648 = .ok (.iconst 0, 1) := by decide +kernel
theorem dL_refuses_649 : decode cL_refuses 649 = .ok (.goto 10, 3) := by decide +kernel
theorem dL_refuses_652 : decode cL_refuses 652 = .ok (.bipush 7, 2) := by decide +kernel
theorem dL_refuses_654 : decode cL_refuses 654 = .ok (.iload_n 1, 1) := by decide +kernel
theorem dL_refuses_655 : decode cL_refuses 655 = .ok (.bipush 9, 2) := by decide +kernel
theorem dL_refuses_657 : decode cL_refuses 657 = .ok (.irem, 1) := by decide +kernel
theorem dL_refuses_658 : decode cL_refuses 658 = .ok (.iadd, 1) := by decide +kernel
