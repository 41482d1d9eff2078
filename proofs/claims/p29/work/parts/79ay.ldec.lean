/-! p29: the law's instructions. -/
theorem dL_holds_682 : decode cL_holds 682 = .ok (.iconst 0, 1) := by decide +kernel
theorem dL_holds_683 : decode cL_holds 683 = .ok (.istore 9, 2) := by decide +kernel
theorem dL_holds_685 : decode cL_holds 685 = .ok (.iinc 16 1, 3) := by decide +kernel
theorem dL_holds_688 : decode cL_holds 688 = .ok (.goto (-102), 3) := by decide +kernel
theorem dL_holds_691 : decode cL_holds 691 = .ok (.iload 9, 2) := by decide +kernel
theorem dL_holds_693 : decode cL_holds 693 = .ok (.ifCond .eq 113, 3) := by decide +kernel
theorem dL_holds_696 : decode cL_holds 696 = .ok (.iload 10, 2) := by decide +kernel
theorem dL_holds_698 : decode cL_holds 698 = .ok (.iload 6, 2) := by decide +kernel
theorem dL_holds_700 : decode cL_holds 700 = .ok (.if_icmp .ne 106, 3) := by decide +kernel
theorem dL_holds_703 : decode cL_holds 703 = .ok (.iload 14, 2) := by decide +kernel
theorem dL_holds_705 : decode cL_holds 705 = .ok (.iload 6, 2) := by decide +kernel
theorem dL_holds_707 : decode cL_holds 707 = .ok (.if_icmp .ne 99, 3) := by decide +kernel
theorem dL_holds_710 : decode cL_holds 710 = .ok (.iload 6, 2) := by decide +kernel
theorem dL_holds_712 : decode cL_holds 712 = .ok (.aload_n 0, 1) := by decide +kernel
theorem dL_holds_713 : decode cL_holds 713 = .ok (.bipush 7, 2) := by decide +kernel
theorem dL_holds_715 : decode cL_holds 715 = .ok (.iconst 0, 1) := by decide +kernel
theorem dL_holds_716 : decode cL_holds 716 = .ok (.iconst 0, 1) := by decide +kernel
theorem dL_holds_717 : decode cL_holds 717 = .ok (.iconst 0, 1) := by decide +kernel
theorem dL_holds_718 : decode cL_holds 718 = .ok (.invokestatic 164, 3) := by decide +kernel
theorem dL_holds_721 : decode cL_holds 721 = .ok (.if_icmp .ne 85, 3) := by decide +kernel
theorem dL_holds_724 : decode cL_holds 724 = .ok (.iload 6, 2) := by decide +kernel
theorem dL_holds_726 : decode cL_holds 726 = .ok (.aload_n 0, 1) := by decide +kernel
theorem dL_holds_727 : decode cL_holds 727 = .ok (.bipush 7, 2) := by decide +kernel
theorem dL_holds_729 : decode cL_holds 729 = .ok (.iconst 1, 1) := by decide +kernel
theorem dL_holds_730 : decode cL_holds 730 = .ok (.iconst 0, 1) := by decide +kernel
theorem dL_holds_731 : decode cL_holds 731 = .ok (.iconst 0, 1) := by decide +kernel
theorem dL_holds_732 : decode cL_holds 732 = .ok (.invokestatic 164, 3) := by decide +kernel
theorem dL_holds_735 : decode cL_holds 735 = .ok (.if_icmp .ne 71, 3) := by decide +kernel
theorem dL_holds_738 : decode cL_holds 738 = .ok (.iload 13, 2) := by decide +kernel
theorem dL_holds_740 : decode cL_holds 740 = .ok (.iload_n 2, 1) := by decide +kernel
theorem dL_holds_741 : decode cL_holds 741 = .ok (.if_icmp .ne 65, 3) := by decide +kernel
theorem dL_holds_744 : decode cL_holds 744 = .ok (.iload 11, 2) := by decide +kernel
theorem dL_holds_746 : decode cL_holds 746 = .ok (.aload_n 0, 1) := by decide +kernel
theorem dL_holds_747 : decode cL_holds 747 = .ok (.iconst 2, 1) := by decide +kernel
theorem dL_holds_748 : decode cL_holds 748 = .ok (.bipush 9, 2) := by decide +kernel
theorem dL_holds_750 : decode cL_holds 750 = .ok (.iconst 0, 1) := by decide +kernel
theorem dL_holds_751 : decode cL_holds 751 = .ok (.iconst 0, 1) := by decide +kernel
theorem dL_holds_752 : decode cL_holds 752 = .ok (.invokestatic 164, 3) := by decide +kernel
theorem dL_holds_755 : decode cL_holds 755 = .ok (.if_icmp .ne 51, 3) := by decide +kernel
theorem dL_holds_758 : decode cL_holds 758 = .ok (.iload 12, 2) := by decide +kernel
theorem dL_holds_760 : decode cL_holds 760 = .ok (.aload_n 0, 1) := by decide +kernel
theorem dL_holds_761 : decode cL_holds 761 = .ok (.iconst 2, 1) := by decide +kernel
theorem dL_holds_762 : decode cL_holds 762 = .ok (.bipush 10, 2) := by decide +kernel
theorem dL_holds_764 : decode cL_holds 764 = .ok (.iconst 0, 1) := by decide +kernel
theorem dL_holds_765 : decode cL_holds 765 = .ok (.iconst 0, 1) := by decide +kernel
theorem dL_holds_766 : decode cL_holds 766 = .ok (.invokestatic 164, 3) := by decide +kernel
theorem dL_holds_769 : decode cL_holds 769 = .ok (.if_icmp .ne 37, 3) := by decide +kernel
theorem dL_holds_772 : decode cL_holds 772 = .ok (.aload_n 0, 1) := by decide +kernel
theorem dL_holds_773 : decode cL_holds 773 = .ok (.iconst 2, 1) := by decide +kernel
theorem dL_holds_774 : decode cL_holds 774 = .ok (.bipush 7, 2) := by decide +kernel
