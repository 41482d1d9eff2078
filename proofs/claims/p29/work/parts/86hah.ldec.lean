/-! p29: the law's instructions. -/
theorem dL_holds_631 : decode cL_holds 631 = .ok (.iconst 1, 1) := by decide +kernel
theorem dL_holds_632 : decode cL_holds 632 = .ok (.goto 4, 3) := by decide +kernel
theorem dL_holds_635 : decode cL_holds 635 = .ok (.iconst 0, 1) := by decide +kernel
theorem dL_holds_636 : decode cL_holds 636 = .ok (.if_icmp .ne 46, 3) := by decide +kernel
theorem dL_holds_639 : decode cL_holds 639 = .ok (.iload 17, 2) := by decide +kernel
theorem dL_holds_641 : decode cL_holds 641 = .ok (.bipush 6, 2) := by decide +kernel
theorem dL_holds_643 : decode cL_holds 643 = .ok (.if_icmp .gt 39, 3) := by decide +kernel
theorem dL_holds_646 : decode cL_holds 646 = .ok (.aload_n 0, 1) := by decide +kernel
theorem dL_holds_647 : decode cL_holds 647 = .ok (.iconst 4, 1) := by decide +kernel
theorem dL_holds_648 : decode cL_holds 648 = .ok (.iload 16, 2) := by decide +kernel
theorem dL_holds_650 : decode cL_holds 650 = .ok (.iconst 4, 1) := by decide +kernel
theorem dL_holds_651 : decode cL_holds 651 = .ok (.iconst 0, 1) := by decide +kernel
theorem dL_holds_652 : decode cL_holds 652 = .ok (.invokestatic 164, 3) := by decide +kernel
theorem dL_holds_655 : decode cL_holds 655 = .ok (.ifCond .lt 27, 3) := by decide +kernel
theorem dL_holds_658 : decode cL_holds 658 = .ok (.aload_n 0, 1) := by decide +kernel
theorem dL_holds_659 : decode cL_holds 659 = .ok (.iconst 4, 1) := by decide +kernel
theorem dL_holds_660 : decode cL_holds 660 = .ok (.iload 16, 2) := by decide +kernel
theorem dL_holds_662 : decode cL_holds 662 = .ok (.iconst 4, 1) := by decide +kernel
theorem dL_holds_663 : decode cL_holds 663 = .ok (.iconst 0, 1) := by decide +kernel
theorem dL_holds_664 : decode cL_holds 664 = .ok (.invokestatic 164, 3) := by decide +kernel
theorem dL_holds_667 : decode cL_holds 667 = .ok (.aload_n 0, 1) := by decide +kernel
theorem dL_holds_668 : decode cL_holds 668 = .ok (.iconst 2, 1) := by decide +kernel
theorem dL_holds_669 : decode cL_holds 669 = .ok (.iconst 2, 1) := by decide +kernel
theorem dL_holds_670 : decode cL_holds 670 = .ok (.iconst 0, 1) := by decide +kernel
theorem dL_holds_671 : decode cL_holds 671 = .ok (.iconst 0, 1) := by decide +kernel
theorem dL_holds_672 : decode cL_holds 672 = .ok (.invokestatic 164, 3) := by decide +kernel
theorem dL_holds_675 : decode cL_holds 675 = .ok (.if_icmp .gt 7, 3) := by decide +kernel
theorem dL_holds_678 : decode cL_holds 678 = .ok (.iconst 1, 1) := by decide +kernel
theorem dL_holds_679 : decode cL_holds 679 = .ok (.goto 4, 3) := by decide +kernel
theorem dL_holds_682 : decode cL_holds 682 = .ok (.iconst 0, 1) := by decide +kernel
theorem dL_holds_683 : decode cL_holds 683 = .ok (.istore 9, 2) := by decide +kernel
theorem dL_holds_685 : decode cL_holds 685 = .ok (.iinc 16 1, 3) := by decide +kernel
theorem dL_holds_688 : decode cL_holds 688 = .ok (.goto (-102), 3) := by decide +kernel
theorem dL_holds_691 : decode cL_holds 691 = .ok (.iload 9, 2) := by decide +kernel
theorem dL_holds_693 : decode cL_holds 693 = .ok (.ifCond .eq 113, 3) := by decide +kernel
theorem dL_holds_696 : decode cL_holds 696 = .ok (.iload 10, 2) := by decide +kernel
theorem dL_holds_698 : decode cL_holds 698 = .ok (.iload 6, 2) := by decide +kernel
theorem dL_holds_700 : decode cL_holds 700 = .ok (.if_icmp .ne 106, 3) := by decide +kernel
theorem dL_holds_703 : decode cL_holds 703 = .ok (.iload 14, 2) := by decide +kernel
theorem dL_holds_705 : decode cL_holds 705 = .ok (.iload 6, 2) := by decide +kernel
theorem dL_holds_707 : decode cL_holds 707 = .ok (.if_icmp .ne 99, 3) := by decide +kernel
theorem dL_holds_710 : decode cL_holds 710 = .ok (.iload 6, 2) := by decide +kernel
theorem dL_holds_712 : decode cL_holds 712 = .ok (.aload_n 0, 1) := by decide +kernel
theorem dL_holds_713 : decode cL_holds 713 = .ok (.bipush 7, 2) := by decide +kernel
theorem dL_holds_715 : decode cL_holds 715 = .ok (.iconst 0, 1) := by decide +kernel
theorem dL_holds_716 : decode cL_holds 716 = .ok (.iconst 0, 1) := by decide +kernel
theorem dL_holds_717 : decode cL_holds 717 = .ok (.iconst 0, 1) := by decide +kernel
theorem dL_holds_718 : decode cL_holds 718 = .ok (.invokestatic 164, 3) := by decide +kernel
theorem dL_holds_721 : decode cL_holds 721 = .ok (.if_icmp .ne 85, 3) := by decide +kernel
theorem dL_holds_724 : decode cL_holds 724 = .ok (.iload 6, 2) := by decide +kernel
