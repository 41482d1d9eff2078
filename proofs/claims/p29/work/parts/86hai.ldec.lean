/-! p29: the law's instructions. -/
theorem dL_holds_726 : decode cL_holds 726 = .ok (.aload_n 0, 1) := by decide +kernel
theorem dL_holds_727 : decode cL_holds 727 = .ok (.bipush 7, 2) := by decide +kernel
theorem dL_holds_729 : decode cL_holds 729 = .ok (.iconst 1, 1) := by decide +kernel
theorem dL_holds_730 : decode cL_holds 730 = .ok (.iconst 0, 1) := by decide +kernel
theorem dL_holds_731 : decode cL_holds 731 = .ok (.iconst 0, 1) := by decide +kernel
theorem dL_holds_732 : decode cL_holds 732 = .ok (.invokestatic 164, 3) := by decide +kernel
theorem dL_holds_735 : decode cL_holds 735 = .ok (.if_icmp .ne 71, 3) := by decide +kernel
theorem dL_holds_738 : decode cL_holds 738 = .ok (.iload 13, 2) := by decide +kernel
theorem dL_holds_740 : decode cL_holds 740 = .ok (.iload_n 2, 1) := by decide +kernel
theorem dL_holds_741 : decode cL_holds 741 = .ok (.if_icmp .ne 65, 3) := by decide +kernel
theorem dL_holds_744 : decode cL_holds 744 = .ok (.iload 11, 2) := by decide +kernel
theorem dL_holds_746 : decode cL_holds 746 = .ok (.aload_n 0, 1) := by decide +kernel
theorem dL_holds_747 : decode cL_holds 747 = .ok (.iconst 2, 1) := by decide +kernel
theorem dL_holds_748 : decode cL_holds 748 = .ok (.bipush 9, 2) := by decide +kernel
theorem dL_holds_750 : decode cL_holds 750 = .ok (.iconst 0, 1) := by decide +kernel
theorem dL_holds_751 : decode cL_holds 751 = .ok (.iconst 0, 1) := by decide +kernel
theorem dL_holds_752 : decode cL_holds 752 = .ok (.invokestatic 164, 3) := by decide +kernel
theorem dL_holds_755 : decode cL_holds 755 = .ok (.if_icmp .ne 51, 3) := by decide +kernel
theorem dL_holds_758 : decode cL_holds 758 = .ok (.iload 12, 2) := by decide +kernel
theorem dL_holds_760 : decode cL_holds 760 = .ok (.aload_n 0, 1) := by decide +kernel
theorem dL_holds_761 : decode cL_holds 761 = .ok (.iconst 2, 1) := by decide +kernel
theorem dL_holds_762 : decode cL_holds 762 = .ok (.bipush 10, 2) := by decide +kernel
theorem dL_holds_764 : decode cL_holds 764 = .ok (.iconst 0, 1) := by decide +kernel
theorem dL_holds_765 : decode cL_holds 765 = .ok (.iconst 0, 1) := by decide +kernel
theorem dL_holds_766 : decode cL_holds 766 = .ok (.invokestatic 164, 3) := by decide +kernel
theorem dL_holds_769 : decode cL_holds 769 = .ok (.if_icmp .ne 37, 3) := by decide +kernel
theorem dL_holds_772 : decode cL_holds 772 = .ok (.aload_n 0, 1) := by decide +kernel
theorem dL_holds_773 : decode cL_holds 773 = .ok (.iconst 2, 1) := by decide +kernel
theorem dL_holds_774 : decode cL_holds 774 = .ok (.bipush 7, 2) := by decide +kernel
theorem dL_holds_776 : decode cL_holds 776 = .ok (.iconst 0, 1) := by decide +kernel
theorem dL_holds_777 : decode cL_holds 777 = .ok (.iconst 0, 1) := by decide +kernel
theorem dL_holds_778 : decode cL_holds 778 = .ok (.invokestatic 164, 3) := by decide +kernel
theorem dL_holds_781 : decode cL_holds 781 = .ok (.aload_n 0, 1) := by decide +kernel
theorem dL_holds_782 : decode cL_holds 782 = .ok (.iconst 2, 1) := by decide +kernel
theorem dL_holds_783 : decode cL_holds 783 = .ok (.bipush 8, 2) := by decide +kernel
theorem dL_holds_785 : decode cL_holds 785 = .ok (.iconst 0, 1) := by decide +kernel
theorem dL_holds_786 : decode cL_holds 786 = .ok (.iconst 0, 1) := by decide +kernel
theorem dL_holds_787 : decode cL_holds 787 = .ok (.invokestatic 164, 3) := by decide +kernel
theorem dL_holds_790 : decode cL_holds 790 = .ok (.iconst (-1), 1) := by decide +kernel
theorem dL_holds_791 : decode cL_holds 791 = .ok (.ixor, 1) := by decide +kernel
theorem dL_holds_792 : decode cL_holds 792 = .ok (.iand, 1) := by decide +kernel
theorem dL_holds_793 : decode cL_holds 793 = .ok (.ifCond .ne 13, 3) := by decide +kernel
theorem dL_holds_796 : decode cL_holds 796 = .ok (.iload_n 2, 1) := by decide +kernel
theorem dL_holds_797 : decode cL_holds 797 = .ok (.iload 5, 2) := by decide +kernel
theorem dL_holds_799 : decode cL_holds 799 = .ok (.if_icmp .gt 7, 3) := by decide +kernel
theorem dL_holds_802 : decode cL_holds 802 = .ok (.iconst 1, 1) := by decide +kernel
theorem dL_holds_803 : decode cL_holds 803 = .ok (.goto 4, 3) := by decide +kernel
theorem dL_holds_806 : decode cL_holds 806 = .ok (.iconst 0, 1) := by decide +kernel
theorem dL_holds_807 : decode cL_holds 807 = .ok (.ireturn, 1) := by decide +kernel
