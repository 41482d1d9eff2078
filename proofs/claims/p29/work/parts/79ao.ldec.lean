/-! p29: the law's instructions. -/
theorem dL_refuses_627 : decode cL_refuses 627 = .ok (.bipush 99, 2) := by decide +kernel
theorem dL_refuses_629 : decode cL_refuses 629 = .ok (.iconst 0, 1) := by decide +kernel
theorem dL_refuses_630 : decode cL_refuses 630 = .ok (.invokestatic 164, 3) := by decide +kernel
theorem dL_refuses_633 : decode cL_refuses 633 = .ok (.ldc 40, 2) := by decide +kernel
theorem dL_refuses_635 : decode cL_refuses 635 = .ok (.if_icmp .ne 120, 3) := by decide +kernel
theorem dL_refuses_638 : decode cL_refuses 638 = .ok (.aload_n 0, 1) := by decide +kernel
theorem dL_refuses_639 : decode cL_refuses 639 = .ok (.bipush 18, 2) := by decide +kernel
theorem dL_refuses_641 : decode cL_refuses 641 = .ok (.iconst 0, 1) := by decide +kernel
theorem dL_refuses_642 : decode cL_refuses 642 = .ok (.iload_n 1, 1) := by decide +kernel
theorem dL_refuses_643 : decode cL_refuses 643 = .ok (.iconst 2, 1) := by decide +kernel
theorem dL_refuses_644 : decode cL_refuses 644 = .ok (.irem, 1) := by decide +kernel
theorem dL_refuses_645 : decode cL_refuses 645 = .ok (.ifCond .ne 7, 3) := by decide +kernel
theorem dL_refuses_648 : decode cL_refuses 648 = .ok (.iconst 0, 1) := by decide +kernel
theorem dL_refuses_649 : decode cL_refuses 649 = .ok (.goto 10, 3) := by decide +kernel
theorem dL_refuses_652 : decode cL_refuses 652 = .ok (.bipush 7, 2) := by decide +kernel
theorem dL_refuses_654 : decode cL_refuses 654 = .ok (.iload_n 1, 1) := by decide +kernel
theorem dL_refuses_655 : decode cL_refuses 655 = .ok (.bipush 9, 2) := by decide +kernel
theorem dL_refuses_657 : decode cL_refuses 657 = .ok (.irem, 1) := by decide +kernel
theorem dL_refuses_658 : decode cL_refuses 658 = .ok (.iadd, 1) := by decide +kernel
theorem dL_refuses_659 : decode cL_refuses 659 = .ok (.iconst 0, 1) := by decide +kernel
theorem dL_refuses_660 : decode cL_refuses 660 = .ok (.invokestatic 164, 3) := by decide +kernel
theorem dL_refuses_663 : decode cL_refuses 663 = .ok (.ldc 15, 2) := by decide +kernel
theorem dL_refuses_665 : decode cL_refuses 665 = .ok (.if_icmp .ne 90, 3) := by decide +kernel
theorem dL_refuses_668 : decode cL_refuses 668 = .ok (.aload_n 0, 1) := by decide +kernel
theorem dL_refuses_669 : decode cL_refuses 669 = .ok (.bipush 19, 2) := by decide +kernel
theorem dL_refuses_671 : decode cL_refuses 671 = .ok (.iconst 2, 1) := by decide +kernel
theorem dL_refuses_672 : decode cL_refuses 672 = .ok (.iload_n 1, 1) := by decide +kernel
theorem dL_refuses_673 : decode cL_refuses 673 = .ok (.bipush 50, 2) := by decide +kernel
theorem dL_refuses_675 : decode cL_refuses 675 = .ok (.irem, 1) := by decide +kernel
theorem dL_refuses_676 : decode cL_refuses 676 = .ok (.iadd, 1) := by decide +kernel
theorem dL_refuses_677 : decode cL_refuses 677 = .ok (.iconst 0, 1) := by decide +kernel
theorem dL_refuses_678 : decode cL_refuses 678 = .ok (.iconst 0, 1) := by decide +kernel
theorem dL_refuses_679 : decode cL_refuses 679 = .ok (.invokestatic 164, 3) := by decide +kernel
theorem dL_refuses_682 : decode cL_refuses 682 = .ok (.ldc 40, 2) := by decide +kernel
theorem dL_refuses_684 : decode cL_refuses 684 = .ok (.if_icmp .ne 71, 3) := by decide +kernel
theorem dL_refuses_687 : decode cL_refuses 687 = .ok (.aload_n 0, 1) := by decide +kernel
theorem dL_refuses_688 : decode cL_refuses 688 = .ok (.bipush 20, 2) := by decide +kernel
theorem dL_refuses_690 : decode cL_refuses 690 = .ok (.iconst (-1), 1) := by decide +kernel
theorem dL_refuses_691 : decode cL_refuses 691 = .ok (.iload_n 1, 1) := by decide +kernel
theorem dL_refuses_692 : decode cL_refuses 692 = .ok (.bipush 9, 2) := by decide +kernel
theorem dL_refuses_694 : decode cL_refuses 694 = .ok (.irem, 1) := by decide +kernel
theorem dL_refuses_695 : decode cL_refuses 695 = .ok (.isub, 1) := by decide +kernel
theorem dL_refuses_696 : decode cL_refuses 696 = .ok (.iconst 0, 1) := by decide +kernel
theorem dL_refuses_697 : decode cL_refuses 697 = .ok (.iconst 0, 1) := by decide +kernel
theorem dL_refuses_698 : decode cL_refuses 698 = .ok (.invokestatic 164, 3) := by decide +kernel
theorem dL_refuses_701 : decode cL_refuses 701 = .ok (.ldc 40, 2) := by decide +kernel
theorem dL_refuses_703 : decode cL_refuses 703 = .ok (.if_icmp .ne 52, 3) := by decide +kernel
theorem dL_refuses_706 : decode cL_refuses 706 = .ok (.aload_n 0, 1) := by decide +kernel
theorem dL_refuses_707 : decode cL_refuses 707 = .ok (.iconst 0, 1) := by decide +kernel
theorem dL_refuses_708 : decode cL_refuses 708 = .ok (.lconst 0, 1) := by decide +kernel
