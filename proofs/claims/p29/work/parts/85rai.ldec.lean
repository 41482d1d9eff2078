/-! p29: the law's instructions. -/
theorem dL_refuses_659 : decode cL_refuses 659 = .ok (.iconst 0, 1) := by decide +kernel
theorem dL_refuses_660 : decode cL_refuses 660 = .ok (.invokestatic 164, 3) := by decide +kernel
theorem dL_refuses_663 : decode cL_refuses 663 = .ok (.ldc 15, 2) := by decide +kernel
theorem dL_refuses_665 : decode cL_refuses 665 = .ok (.if_icmp .ne 90, 3) := by decide +kernel
theorem dL_refuses_668 : decode cL_refuses 668 = .ok (.aload_n 0, 1) := by decide +kernel
theorem dL_refuses_669 : decode cL_refuses 669 = .ok (.bipush 19, 2) := by decide +kernel
theorem dL_refuses_671 : decode cL_refuses 671 = .ok (.iconst 2, 1) := by decide +kernel
theorem dL_refuses_672 : decode cL_refuses 672 = .ok (.iload_n 1, 1) := by decide +kernel
theorem dL_refuses_673 : decode cL_refuses 673 = .ok (.bipush 50, 2) := by decide +kernel
theorem dL_refuses_675 : decode cL_refuses 675 = .ok (.irem, 1) := by decide +kernel
theorem dL_refuses_676 : decode cL_refuses 676 = .ok (.iadd, 1) := by decide +kernel
theorem dL_refuses_677 : decode cL_refuses 677 = .ok (.iconst 0, 1) := by decide +kernel
theorem dL_refuses_678 : decode cL_refuses 678 = .ok (.iconst 0, 1) := by decide +kernel
theorem dL_refuses_679 : decode cL_refuses 679 = .ok (.invokestatic 164, 3) := by decide +kernel
theorem dL_refuses_682 : decode cL_refuses 682 = .ok (.ldc 40, 2) := by decide +kernel
theorem dL_refuses_684 : decode cL_refuses 684 = .ok (.if_icmp .ne 71, 3) := by decide +kernel
theorem dL_refuses_687 : decode cL_refuses 687 = .ok (.aload_n 0, 1) := by decide +kernel
theorem dL_refuses_688 : decode cL_refuses 688 = .ok (.bipush 20, 2) := by decide +kernel
theorem dL_refuses_690 : decode cL_refuses 690 = .ok (.iconst (-1), 1) := by decide +kernel
theorem dL_refuses_691 : decode cL_refuses 691 = .ok (.iload_n 1, 1) := by decide +kernel
theorem dL_refuses_692 : decode cL_refuses 692 = .ok (.bipush 9, 2) := by decide +kernel
theorem dL_refuses_694 : decode cL_refuses 694 = .ok (.irem, 1) := by decide +kernel
theorem dL_refuses_695 : decode cL_refuses 695 = .ok (.isub, 1) := by decide +kernel
theorem dL_refuses_696 : decode cL_refuses 696 = .ok (.iconst 0, 1) := by decide +kernel
theorem dL_refuses_697 : decode cL_refuses 697 = .ok (.iconst 0, 1) := by decide +kernel
theorem dL_refuses_698 : decode cL_refuses 698 = .ok (.invokestatic 164, 3) := by decide +kernel
theorem dL_refuses_701 : decode cL_refuses 701 = .ok (.ldc 40, 2) := by decide +kernel
theorem dL_refuses_703 : decode cL_refuses 703 = .ok (.if_icmp .ne 52, 3) := by decide +kernel
theorem dL_refuses_706 : decode cL_refuses 706 = .ok (.aload_n 0, 1) := by decide +kernel
theorem dL_refuses_707 : decode cL_refuses 707 = .ok (.iconst 0, 1) := by decide +kernel
theorem dL_refuses_708 : decode cL_refuses 708 = .ok (.lconst 0, 1) := by decide +kernel
theorem dL_refuses_709 : decode cL_refuses 709 = .ok (.invokestatic 168, 3) := by decide +kernel
theorem dL_refuses_712 : decode cL_refuses 712 = .ok (.ldc 15, 2) := by decide +kernel
theorem dL_refuses_714 : decode cL_refuses 714 = .ok (.if_icmp .ne 41, 3) := by decide +kernel
theorem dL_refuses_717 : decode cL_refuses 717 = .ok (.aload_n 0, 1) := by decide +kernel
theorem dL_refuses_718 : decode cL_refuses 718 = .ok (.iconst 1, 1) := by decide +kernel
theorem dL_refuses_719 : decode cL_refuses 719 = .ok (.ldc2_w 172, 3) := by decide +kernel
theorem dL_refuses_722 : decode cL_refuses 722 = .ok (.iload_n 1, 1) := by decide +kernel
theorem dL_refuses_723 : decode cL_refuses 723 = .ok (.i2l, 1) := by decide +kernel
theorem dL_refuses_724 : decode cL_refuses 724 = .ok (.ladd, 1) := by decide +kernel
theorem dL_refuses_725 : decode cL_refuses 725 = .ok (.invokestatic 168, 3) := by decide +kernel
theorem dL_refuses_728 : decode cL_refuses 728 = .ok (.ldc 15, 2) := by decide +kernel
theorem dL_refuses_730 : decode cL_refuses 730 = .ok (.if_icmp .ne 25, 3) := by decide +kernel
theorem dL_refuses_733 : decode cL_refuses 733 = .ok (.aload_n 0, 1) := by decide +kernel
theorem dL_refuses_734 : decode cL_refuses 734 = .ok (.iload_n 1, 1) := by decide +kernel
theorem dL_refuses_735 : decode cL_refuses 735 = .ok (.i2l, 1) := by decide +kernel
theorem dL_refuses_736 : decode cL_refuses 736 = .ok (.bipush 61, 2) := by decide +kernel
theorem dL_refuses_738 : decode cL_refuses 738 = .ok (.iload_n 1, 1) := by decide +kernel
theorem dL_refuses_739 : decode cL_refuses 739 = .ok (.bipush 9, 2) := by decide +kernel
theorem dL_refuses_741 : decode cL_refuses 741 = .ok (.irem, 1) := by decide +kernel
