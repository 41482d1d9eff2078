/-! p29: the law's instructions. -/
theorem dL_refuses_742 : decode cL_refuses 742 = .ok (.iadd, 1) := by decide +kernel
theorem dL_refuses_743 : decode cL_refuses 743 = .ok (.invokestatic 174, 3) := by decide +kernel
theorem dL_refuses_746 : decode cL_refuses 746 = .ok (.ldc 15, 2) := by decide +kernel
theorem dL_refuses_748 : decode cL_refuses 748 = .ok (.if_icmp .ne 7, 3) := by decide +kernel
theorem dL_refuses_751 : decode cL_refuses 751 = .ok (.iconst 1, 1) := by decide +kernel
theorem dL_refuses_752 : decode cL_refuses 752 = .ok (.goto 4, 3) := by decide +kernel
theorem dL_refuses_755 : decode cL_refuses 755 = .ok (.iconst 0, 1) := by decide +kernel
theorem dL_refuses_756 : decode cL_refuses 756 = .ok (.istore 7, 2) := by decide +kernel
theorem dL_refuses_758 : decode cL_refuses 758 = .ok (.iload 7, 2) := by decide +kernel
theorem dL_refuses_760 : decode cL_refuses 760 = .ok (.ifCond .eq 41, 3) := by decide +kernel
theorem dL_refuses_763 : decode cL_refuses 763 = .ok (.iload_n 3, 1) := by decide +kernel
theorem dL_refuses_764 : decode cL_refuses 764 = .ok (.bipush 12, 2) := by decide +kernel
theorem dL_refuses_766 : decode cL_refuses 766 = .ok (.if_icmp .lt 31, 3) := by decide +kernel
theorem dL_refuses_769 : decode cL_refuses 769 = .ok (.aload_n 0, 1) := by decide +kernel
theorem dL_refuses_770 : decode cL_refuses 770 = .ok (.bipush 9, 2) := by decide +kernel
theorem dL_refuses_772 : decode cL_refuses 772 = .ok (.iconst 0, 1) := by decide +kernel
theorem dL_refuses_773 : decode cL_refuses 773 = .ok (.iconst 0, 1) := by decide +kernel
theorem dL_refuses_774 : decode cL_refuses 774 = .ok (.iconst 1, 1) := by decide +kernel
theorem dL_refuses_775 : decode cL_refuses 775 = .ok (.invokestatic 164, 3) := by decide +kernel
theorem dL_refuses_778 : decode cL_refuses 778 = .ok (.ldc 26, 2) := by decide +kernel
theorem dL_refuses_780 : decode cL_refuses 780 = .ok (.if_icmp .ne 21, 3) := by decide +kernel
theorem dL_refuses_783 : decode cL_refuses 783 = .ok (.aload_n 0, 1) := by decide +kernel
theorem dL_refuses_784 : decode cL_refuses 784 = .ok (.bipush 10, 2) := by decide +kernel
theorem dL_refuses_786 : decode cL_refuses 786 = .ok (.iconst 0, 1) := by decide +kernel
theorem dL_refuses_787 : decode cL_refuses 787 = .ok (.iconst 0, 1) := by decide +kernel
theorem dL_refuses_788 : decode cL_refuses 788 = .ok (.iconst 0, 1) := by decide +kernel
theorem dL_refuses_789 : decode cL_refuses 789 = .ok (.invokestatic 164, 3) := by decide +kernel
theorem dL_refuses_792 : decode cL_refuses 792 = .ok (.ldc 26, 2) := by decide +kernel
theorem dL_refuses_794 : decode cL_refuses 794 = .ok (.if_icmp .ne 7, 3) := by decide +kernel
theorem dL_refuses_797 : decode cL_refuses 797 = .ok (.iconst 1, 1) := by decide +kernel
theorem dL_refuses_798 : decode cL_refuses 798 = .ok (.goto 4, 3) := by decide +kernel
theorem dL_refuses_801 : decode cL_refuses 801 = .ok (.iconst 0, 1) := by decide +kernel
theorem dL_refuses_802 : decode cL_refuses 802 = .ok (.ireturn, 1) := by decide +kernel
