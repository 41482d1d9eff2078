/-! p29: the law's instructions. -/
theorem dL_goes_24 : decode cL_goes 24 = .ok (.istore 5, 2) := by decide +kernel
theorem dL_goes_26 : decode cL_goes 26 = .ok (.iload 5, 2) := by decide +kernel
theorem dL_goes_28 : decode cL_goes 28 = .ok (.iconst (-1), 1) := by decide +kernel
theorem dL_goes_29 : decode cL_goes 29 = .ok (.if_icmp .ne 8, 3) := by decide +kernel
theorem dL_goes_32 : decode cL_goes 32 = .ok (.bipush 100, 2) := by decide +kernel
theorem dL_goes_34 : decode cL_goes 34 = .ok (.goto 5, 3) := by decide +kernel
theorem dL_goes_37 : decode cL_goes 37 = .ok (.iload 5, 2) := by decide +kernel
theorem dL_goes_39 : decode cL_goes 39 = .ok (.istore 6, 2) := by decide +kernel
theorem dL_goes_41 : decode cL_goes 41 = .ok (.aload_n 0, 1) := by decide +kernel
theorem dL_goes_42 : decode cL_goes 42 = .ok (.iconst 2, 1) := by decide +kernel
theorem dL_goes_43 : decode cL_goes 43 = .ok (.bipush 9, 2) := by decide +kernel
theorem dL_goes_45 : decode cL_goes 45 = .ok (.iconst 0, 1) := by decide +kernel
theorem dL_goes_46 : decode cL_goes 46 = .ok (.iconst 0, 1) := by decide +kernel
theorem dL_goes_47 : decode cL_goes 47 = .ok (.invokestatic 164, 3) := by decide +kernel
theorem dL_goes_50 : decode cL_goes 50 = .ok (.istore 7, 2) := by decide +kernel
theorem dL_goes_52 : decode cL_goes 52 = .ok (.aload_n 0, 1) := by decide +kernel
theorem dL_goes_53 : decode cL_goes 53 = .ok (.aload_n 1, 1) := by decide +kernel
theorem dL_goes_54 : decode cL_goes 54 = .ok (.iload 6, 2) := by decide +kernel
theorem dL_goes_56 : decode cL_goes 56 = .ok (.invokestatic 218, 3) := by decide +kernel
theorem dL_goes_59 : decode cL_goes 59 = .ok (.ifCond .eq 72, 3) := by decide +kernel
theorem dL_goes_62 : decode cL_goes 62 = .ok (.aload_n 0, 1) := by decide +kernel
theorem dL_goes_63 : decode cL_goes 63 = .ok (.iconst 5, 1) := by decide +kernel
theorem dL_goes_64 : decode cL_goes 64 = .ok (.iload_n 3, 1) := by decide +kernel
theorem dL_goes_65 : decode cL_goes 65 = .ok (.iconst 3, 1) := by decide +kernel
theorem dL_goes_66 : decode cL_goes 66 = .ok (.iconst 0, 1) := by decide +kernel
theorem dL_goes_67 : decode cL_goes 67 = .ok (.invokestatic 164, 3) := by decide +kernel
theorem dL_goes_70 : decode cL_goes 70 = .ok (.iload 4, 2) := by decide +kernel
theorem dL_goes_72 : decode cL_goes 72 = .ok (.if_icmp .le 7, 3) := by decide +kernel
theorem dL_goes_75 : decode cL_goes 75 = .ok (.iconst 1, 1) := by decide +kernel
theorem dL_goes_76 : decode cL_goes 76 = .ok (.goto 4, 3) := by decide +kernel
theorem dL_goes_79 : decode cL_goes 79 = .ok (.iconst 0, 1) := by decide +kernel
theorem dL_goes_80 : decode cL_goes 80 = .ok (.iload 5, 2) := by decide +kernel
theorem dL_goes_82 : decode cL_goes 82 = .ok (.iconst (-1), 1) := by decide +kernel
theorem dL_goes_83 : decode cL_goes 83 = .ok (.if_icmp .eq 7, 3) := by decide +kernel
theorem dL_goes_86 : decode cL_goes 86 = .ok (.iconst 1, 1) := by decide +kernel
theorem dL_goes_87 : decode cL_goes 87 = .ok (.goto 4, 3) := by decide +kernel
theorem dL_goes_90 : decode cL_goes 90 = .ok (.iconst 0, 1) := by decide +kernel
theorem dL_goes_91 : decode cL_goes 91 = .ok (.if_icmp .ne 40, 3) := by decide +kernel
theorem dL_goes_94 : decode cL_goes 94 = .ok (.iload 5, 2) := by decide +kernel
theorem dL_goes_96 : decode cL_goes 96 = .ok (.iconst (-1), 1) := by decide +kernel
theorem dL_goes_97 : decode cL_goes 97 = .ok (.if_icmp .eq 20, 3) := by decide +kernel
theorem dL_goes_100 : decode cL_goes 100 = .ok (.aload_n 0, 1) := by decide +kernel
theorem dL_goes_101 : decode cL_goes 101 = .ok (.iconst 2, 1) := by decide +kernel
theorem dL_goes_102 : decode cL_goes 102 = .ok (.bipush 7, 2) := by decide +kernel
theorem dL_goes_104 : decode cL_goes 104 = .ok (.iconst 0, 1) := by decide +kernel
theorem dL_goes_105 : decode cL_goes 105 = .ok (.iconst 0, 1) := by decide +kernel
theorem dL_goes_106 : decode cL_goes 106 = .ok (.invokestatic 164, 3) := by decide +kernel
theorem dL_goes_109 : decode cL_goes 109 = .ok (.iload_n 3, 1) := by decide +kernel
theorem dL_goes_110 : decode cL_goes 110 = .ok (.ishr, 1) := by decide +kernel
theorem dL_goes_111 : decode cL_goes 111 = .ok (.iconst 1, 1) := by decide +kernel
