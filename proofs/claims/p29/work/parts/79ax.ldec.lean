/-! p29: the law's instructions. -/
theorem dL_holds_594 : decode cL_holds 594 = .ok (.ifCond .eq 97, 3) := by decide +kernel
theorem dL_holds_597 : decode cL_holds 597 = .ok (.aload_n 0, 1) := by decide +kernel
theorem dL_holds_598 : decode cL_holds 598 = .ok (.iconst 4, 1) := by decide +kernel
theorem dL_holds_599 : decode cL_holds 599 = .ok (.iload 16, 2) := by decide +kernel
theorem dL_holds_601 : decode cL_holds 601 = .ok (.iconst 3, 1) := by decide +kernel
theorem dL_holds_602 : decode cL_holds 602 = .ok (.iconst 0, 1) := by decide +kernel
theorem dL_holds_603 : decode cL_holds 603 = .ok (.invokestatic 164, 3) := by decide +kernel
theorem dL_holds_606 : decode cL_holds 606 = .ok (.istore 17, 2) := by decide +kernel
theorem dL_holds_608 : decode cL_holds 608 = .ok (.iload 17, 2) := by decide +kernel
theorem dL_holds_610 : decode cL_holds 610 = .ok (.ifCond .le 7, 3) := by decide +kernel
theorem dL_holds_613 : decode cL_holds 613 = .ok (.iconst 1, 1) := by decide +kernel
theorem dL_holds_614 : decode cL_holds 614 = .ok (.goto 4, 3) := by decide +kernel
theorem dL_holds_617 : decode cL_holds 617 = .ok (.iconst 0, 1) := by decide +kernel
theorem dL_holds_618 : decode cL_holds 618 = .ok (.aload_n 0, 1) := by decide +kernel
theorem dL_holds_619 : decode cL_holds 619 = .ok (.iconst 4, 1) := by decide +kernel
theorem dL_holds_620 : decode cL_holds 620 = .ok (.iload 16, 2) := by decide +kernel
theorem dL_holds_622 : decode cL_holds 622 = .ok (.iconst 0, 1) := by decide +kernel
theorem dL_holds_623 : decode cL_holds 623 = .ok (.iconst 0, 1) := by decide +kernel
theorem dL_holds_624 : decode cL_holds 624 = .ok (.invokestatic 164, 3) := by decide +kernel
theorem dL_holds_627 : decode cL_holds 627 = .ok (.iconst 1, 1) := by decide +kernel
theorem dL_holds_628 : decode cL_holds 628 = .ok (.if_icmp .ne 7, 3) := by decide +kernel
theorem dL_holds_631 : decode cL_holds 631 = .ok (.iconst 1, 1) := by decide +kernel
theorem dL_holds_632 : decode cL_holds 632 = .ok (.goto 4, 3) := by decide +kernel
theorem dL_holds_635 : decode cL_holds 635 = .ok (.iconst 0, 1) := by decide +kernel
theorem dL_holds_636 : decode cL_holds 636 = .ok (.if_icmp .ne 46, 3) := by decide +kernel
theorem dL_holds_639 : decode cL_holds 639 = .ok (.iload 17, 2) := by decide +kernel
theorem dL_holds_641 : decode cL_holds 641 = .ok (.bipush 6, 2) := by decide +kernel
theorem dL_holds_643 : decode cL_holds 643 = .ok (.if_icmp .gt 39, 3) := by decide +kernel
theorem dL_holds_646 : decode cL_holds 646 = .ok (.aload_n 0, 1) := by decide +kernel
theorem dL_holds_647 : decode cL_holds 647 = .ok (.iconst 4, 1) := by decide +kernel
theorem dL_holds_648 : decode cL_holds 648 = .ok (.iload 16, 2) := by decide +kernel
theorem dL_holds_650 : decode cL_holds 650 = .ok (.iconst 4, 1) := by decide +kernel
theorem dL_holds_651 : decode cL_holds 651 = .ok (.iconst 0, 1) := by decide +kernel
theorem dL_holds_652 : decode cL_holds 652 = .ok (.invokestatic 164, 3) := by decide +kernel
theorem dL_holds_655 : decode cL_holds 655 = .ok (.ifCond .lt 27, 3) := by decide +kernel
theorem dL_holds_658 : decode cL_holds 658 = .ok (.aload_n 0, 1) := by decide +kernel
theorem dL_holds_659 : decode cL_holds 659 = .ok (.iconst 4, 1) := by decide +kernel
theorem dL_holds_660 : decode cL_holds 660 = .ok (.iload 16, 2) := by decide +kernel
theorem dL_holds_662 : decode cL_holds 662 = .ok (.iconst 4, 1) := by decide +kernel
theorem dL_holds_663 : decode cL_holds 663 = .ok (.iconst 0, 1) := by decide +kernel
theorem dL_holds_664 : decode cL_holds 664 = .ok (.invokestatic 164, 3) := by decide +kernel
theorem dL_holds_667 : decode cL_holds 667 = .ok (.aload_n 0, 1) := by decide +kernel
theorem dL_holds_668 : decode cL_holds 668 = .ok (.iconst 2, 1) := by decide +kernel
theorem dL_holds_669 : decode cL_holds 669 = .ok (.iconst 2, 1) := by decide +kernel
theorem dL_holds_670 : decode cL_holds 670 = .ok (.iconst 0, 1) := by decide +kernel
theorem dL_holds_671 : decode cL_holds 671 = .ok (.iconst 0, 1) := by decide +kernel
theorem dL_holds_672 : decode cL_holds 672 = .ok (.invokestatic 164, 3) := by decide +kernel
theorem dL_holds_675 : decode cL_holds 675 = .ok (.if_icmp .gt 7, 3) := by decide +kernel
theorem dL_holds_678 : decode cL_holds 678 = .ok (.iconst 1, 1) := by decide +kernel
theorem dL_holds_679 : decode cL_holds 679 = .ok (.goto 4, 3) := by decide +kernel
