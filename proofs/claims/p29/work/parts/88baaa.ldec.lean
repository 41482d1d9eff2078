/-! p29: the law's instructions. -/
theorem dL_least_0 : decode cL_least 0 = .ok (.iconst 1, 1) := by decide +kernel
theorem dL_least_1 : decode cL_least 1 = .ok (.iload_n 2, 1) := by decide +kernel
theorem dL_least_2 : decode cL_least 2 = .ok (.bipush 60, 2) := by decide +kernel
theorem dL_least_4 : decode cL_least 4 = .ok (.irem, 1) := by decide +kernel
theorem dL_least_5 : decode cL_least 5 = .ok (.iadd, 1) := by decide +kernel
theorem dL_least_6 : decode cL_least 6 = .ok (.istore_n 3, 1) := by decide +kernel
theorem dL_least_7 : decode cL_least 7 = .ok (.aload_n 0, 1) := by decide +kernel
theorem dL_least_8 : decode cL_least 8 = .ok (.bipush 17, 2) := by decide +kernel
theorem dL_least_10 : decode cL_least 10 = .ok (.iload_n 3, 1) := by decide +kernel
theorem dL_least_11 : decode cL_least 11 = .ok (.iconst 0, 1) := by decide +kernel
theorem dL_least_12 : decode cL_least 12 = .ok (.iconst 0, 1) := by decide +kernel
theorem dL_least_13 : decode cL_least 13 = .ok (.invokestatic 164, 3) := by decide +kernel
theorem dL_least_16 : decode cL_least 16 = .ok (.istore 4, 2) := by decide +kernel
theorem dL_least_18 : decode cL_least 18 = .ok (.aload_n 0, 1) := by decide +kernel
theorem dL_least_19 : decode cL_least 19 = .ok (.iconst 2, 1) := by decide +kernel
theorem dL_least_20 : decode cL_least 20 = .ok (.bipush 10, 2) := by decide +kernel
theorem dL_least_22 : decode cL_least 22 = .ok (.iconst 0, 1) := by decide +kernel
theorem dL_least_23 : decode cL_least 23 = .ok (.iconst 0, 1) := by decide +kernel
theorem dL_least_24 : decode cL_least 24 = .ok (.invokestatic 164, 3) := by decide +kernel
theorem dL_least_27 : decode cL_least 27 = .ok (.istore 5, 2) := by decide +kernel
theorem dL_least_29 : decode cL_least 29 = .ok (.iload 4, 2) := by decide +kernel
theorem dL_least_31 : decode cL_least 31 = .ok (.iconst (-1), 1) := by decide +kernel
theorem dL_least_32 : decode cL_least 32 = .ok (.if_icmp .ne 7, 3) := by decide +kernel
theorem dL_least_35 : decode cL_least 35 = .ok (.iconst 3, 1) := by decide +kernel
theorem dL_least_36 : decode cL_least 36 = .ok (.goto 5, 3) := by decide +kernel
theorem dL_least_39 : decode cL_least 39 = .ok (.iload 4, 2) := by decide +kernel
theorem dL_least_41 : decode cL_least 41 = .ok (.istore 6, 2) := by decide +kernel
theorem dL_least_43 : decode cL_least 43 = .ok (.iconst 1, 1) := by decide +kernel
theorem dL_least_44 : decode cL_least 44 = .ok (.istore 7, 2) := by decide +kernel
theorem dL_least_46 : decode cL_least 46 = .ok (.iconst 0, 1) := by decide +kernel
theorem dL_least_47 : decode cL_least 47 = .ok (.istore 8, 2) := by decide +kernel
theorem dL_least_49 : decode cL_least 49 = .ok (.iload 8, 2) := by decide +kernel
theorem dL_least_51 : decode cL_least 51 = .ok (.iload 6, 2) := by decide +kernel
theorem dL_least_53 : decode cL_least 53 = .ok (.if_icmp .gt 135, 3) := by decide +kernel
theorem dL_least_56 : decode cL_least 56 = .ok (.iload 7, 2) := by decide +kernel
theorem dL_least_58 : decode cL_least 58 = .ok (.ifCond .eq 130, 3) := by decide +kernel
theorem dL_least_61 : decode cL_least 61 = .ok (.aload_n 0, 1) := by decide +kernel
theorem dL_least_62 : decode cL_least 62 = .ok (.bipush 13, 2) := by decide +kernel
theorem dL_least_64 : decode cL_least 64 = .ok (.iconst 0, 1) := by decide +kernel
theorem dL_least_65 : decode cL_least 65 = .ok (.iload 8, 2) := by decide +kernel
theorem dL_least_67 : decode cL_least 67 = .ok (.iconst 0, 1) := by decide +kernel
theorem dL_least_68 : decode cL_least 68 = .ok (.invokestatic 164, 3) := by decide +kernel
theorem dL_least_71 : decode cL_least 71 = .ok (.istore 9, 2) := by decide +kernel
theorem dL_least_73 : decode cL_least 73 = .ok (.iload 9, 2) := by decide +kernel
theorem dL_least_75 : decode cL_least 75 = .ok (.ifCond .lt 104, 3) := by decide +kernel
theorem dL_least_78 : decode cL_least 78 = .ok (.aload_n 1, 1) := by decide +kernel
theorem dL_least_79 : decode cL_least 79 = .ok (.bipush 13, 2) := by decide +kernel
theorem dL_least_81 : decode cL_least 81 = .ok (.iconst 0, 1) := by decide +kernel
theorem dL_least_82 : decode cL_least 82 = .ok (.iload 8, 2) := by decide +kernel
theorem dL_least_84 : decode cL_least 84 = .ok (.iconst 0, 1) := by decide +kernel
