/-! p29: the law's instructions. -/
theorem dL_goes_0 : decode cL_goes 0 = .ok (.iload_n 2, 1) := by decide +kernel
theorem dL_goes_1 : decode cL_goes 1 = .ok (.bipush 6, 2) := by decide +kernel
theorem dL_goes_3 : decode cL_goes 3 = .ok (.irem, 1) := by decide +kernel
theorem dL_goes_4 : decode cL_goes 4 = .ok (.istore_n 3, 1) := by decide +kernel
theorem dL_goes_5 : decode cL_goes 5 = .ok (.aload_n 0, 1) := by decide +kernel
theorem dL_goes_6 : decode cL_goes 6 = .ok (.iconst 5, 1) := by decide +kernel
theorem dL_goes_7 : decode cL_goes 7 = .ok (.iload_n 3, 1) := by decide +kernel
theorem dL_goes_8 : decode cL_goes 8 = .ok (.iconst 3, 1) := by decide +kernel
theorem dL_goes_9 : decode cL_goes 9 = .ok (.iconst 0, 1) := by decide +kernel
theorem dL_goes_10 : decode cL_goes 10 = .ok (.invokestatic 164, 3) := by decide +kernel
theorem dL_goes_13 : decode cL_goes 13 = .ok (.istore 4, 2) := by decide +kernel
theorem dL_goes_15 : decode cL_goes 15 = .ok (.aload_n 0, 1) := by decide +kernel
theorem dL_goes_16 : decode cL_goes 16 = .ok (.bipush 16, 2) := by decide +kernel
theorem dL_goes_18 : decode cL_goes 18 = .ok (.iload_n 3, 1) := by decide +kernel
theorem dL_goes_19 : decode cL_goes 19 = .ok (.iconst 0, 1) := by decide +kernel
theorem dL_goes_20 : decode cL_goes 20 = .ok (.iconst 0, 1) := by decide +kernel
theorem dL_goes_21 : decode cL_goes 21 = .ok (.invokestatic 164, 3) := by decide +kernel
theorem dL_goes_24 : decode cL_goes 24 = .ok (.istore 5, 2) := by decide +kernel
theorem dL_goes_26 : decode cL_goes 26 = .ok (.iload 5, 2) := by decide +kernel
theorem dL_goes_28 : decode cL_goes 28 = .ok (.iconst (-1), 1) := by decide +kernel
theorem dL_goes_29 : decode cL_goes 29 = .ok (.if_icmp .ne 8, 3) := by decide +kernel
theorem dL_goes_32 : decode cL_goes 32 = .ok (.bipush 100, 2) := by decide +kernel
theorem dL_goes_34 : decode cL_goes 34 = .ok (.goto 5, 3) := by decide +kernel
theorem dL_goes_37 : decode cL_goes 37 = .ok (.iload 5, 2) := by decide +kernel
theorem dL_goes_39 : decode cL_goes 39 = .ok (.istore 6, 2) := by decide +kernel
theorem dL_goes_41 : decode cL_goes 41 = .ok (.aload_n 0, 1) := by decide +kernel
theorem dL_goes_42 : decode cL_goes 42 = .ok (.iconst 2, 1) := by decide +kernel
theorem dL_goes_43 : decode cL_goes 43 = .ok (.bipush 9, 2) := by decide +kernel
theorem dL_goes_45 : decode cL_goes 45 = .ok (.iconst 0, 1) := by decide +kernel
theorem dL_goes_46 : decode cL_goes 46 = .ok (.iconst 0, 1) := by decide +kernel
theorem dL_goes_47 : decode cL_goes 47 = .ok (.invokestatic 164, 3) := by decide +kernel
theorem dL_goes_50 : decode cL_goes 50 = .ok (.istore 7, 2) := by decide +kernel
theorem dL_goes_52 : decode cL_goes 52 = .ok (.aload_n 0, 1) := by decide +kernel
theorem dL_goes_53 : decode cL_goes 53 = .ok (.aload_n 1, 1) := by decide +kernel
theorem dL_goes_54 : decode cL_goes 54 = .ok (.iload 6, 2) := by decide +kernel
theorem dL_goes_56 : decode cL_goes 56 = .ok (.invokestatic 218, 3) := by decide +kernel
theorem dL_goes_59 : decode cL_goes 59 = .ok (.ifCond .eq 72, 3) := by decide +kernel
theorem dL_goes_62 : decode cL_goes 62 = .ok (.aload_n 0, 1) := by decide +kernel
theorem dL_goes_63 : decode cL_goes 63 = .ok (.iconst 5, 1) := by decide +kernel
theorem dL_goes_64 : decode cL_goes 64 = .ok (.iload_n 3, 1) := by decide +kernel
theorem dL_goes_65 : decode cL_goes 65 = .ok (.iconst 3, 1) := by decide +kernel
theorem dL_goes_66 : decode cL_goes 66 = .ok (.iconst 0, 1) := by decide +kernel
theorem dL_goes_67 : decode cL_goes 67 = .ok (.invokestatic 164, 3) := by decide +kernel
theorem dL_goes_70 : decode cL_goes 70 = .ok (.iload 4, 2) := by decide +kernel
theorem dL_goes_72 : decode cL_goes 72 = .ok (.if_icmp .le 7, 3) := by decide +kernel
theorem dL_goes_75 : decode cL_goes 75 = .ok (.iconst 1, 1) := by decide +kernel
theorem dL_goes_76 : decode cL_goes 76 = .ok (.goto 4, 3) := by decide +kernel
theorem dL_goes_79 : decode cL_goes 79 = .ok (.iconst 0, 1) := by decide +kernel
theorem dL_goes_80 : decode cL_goes 80 = .ok (.iload 5, 2) := by decide +kernel
theorem dL_goes_82 : decode cL_goes 82 = .ok (.iconst (-1), 1) := by decide +kernel
