/-! p29: the law's instructions. -/
theorem dL_refuses_0 : decode cL_refuses 0 = .ok (.aload_n 0, 1) := by decide +kernel
theorem dL_refuses_1 : decode cL_refuses 1 = .ok (.iconst 2, 1) := by decide +kernel
theorem dL_refuses_2 : decode cL_refuses 2 = .ok (.iconst 0, 1) := by decide +kernel
theorem dL_refuses_3 : decode cL_refuses 3 = .ok (.iconst 0, 1) := by decide +kernel
theorem dL_refuses_4 : decode cL_refuses 4 = .ok (.iconst 0, 1) := by decide +kernel
theorem dL_refuses_5 : decode cL_refuses 5 = .ok (.invokestatic 164, 3) := by decide +kernel
theorem dL_refuses_8 : decode cL_refuses 8 = .ok (.istore_n 2, 1) := by decide +kernel
theorem dL_refuses_9 : decode cL_refuses 9 = .ok (.aload_n 0, 1) := by decide +kernel
theorem dL_refuses_10 : decode cL_refuses 10 = .ok (.iconst 2, 1) := by decide +kernel
theorem dL_refuses_11 : decode cL_refuses 11 = .ok (.iconst 1, 1) := by decide +kernel
theorem dL_refuses_12 : decode cL_refuses 12 = .ok (.iconst 0, 1) := by decide +kernel
theorem dL_refuses_13 : decode cL_refuses 13 = .ok (.iconst 0, 1) := by decide +kernel
theorem dL_refuses_14 : decode cL_refuses 14 = .ok (.invokestatic 164, 3) := by decide +kernel
theorem dL_refuses_17 : decode cL_refuses 17 = .ok (.istore_n 3, 1) := by decide +kernel
theorem dL_refuses_18 : decode cL_refuses 18 = .ok (.iload_n 1, 1) := by decide +kernel
theorem dL_refuses_19 : decode cL_refuses 19 = .ok (.iconst 2, 1) := by decide +kernel
theorem dL_refuses_20 : decode cL_refuses 20 = .ok (.irem, 1) := by decide +kernel
theorem dL_refuses_21 : decode cL_refuses 21 = .ok (.ifCond .ne 12, 3) := by decide +kernel
theorem dL_refuses_24 : decode cL_refuses 24 = .ok (.iconst (-1), 1) := by decide +kernel
theorem dL_refuses_25 : decode cL_refuses 25 = .ok (.iload_n 1, 1) := by decide +kernel
theorem dL_refuses_26 : decode cL_refuses 26 = .ok (.bipush 99, 2) := by decide +kernel
theorem dL_refuses_28 : decode cL_refuses 28 = .ok (.irem, 1) := by decide +kernel
theorem dL_refuses_29 : decode cL_refuses 29 = .ok (.isub, 1) := by decide +kernel
theorem dL_refuses_30 : decode cL_refuses 30 = .ok (.goto 10, 3) := by decide +kernel
theorem dL_refuses_33 : decode cL_refuses 33 = .ok (.bipush 6, 2) := by decide +kernel
theorem dL_refuses_35 : decode cL_refuses 35 = .ok (.iload_n 1, 1) := by decide +kernel
theorem dL_refuses_36 : decode cL_refuses 36 = .ok (.bipush 99, 2) := by decide +kernel
theorem dL_refuses_38 : decode cL_refuses 38 = .ok (.irem, 1) := by decide +kernel
theorem dL_refuses_39 : decode cL_refuses 39 = .ok (.iadd, 1) := by decide +kernel
theorem dL_refuses_40 : decode cL_refuses 40 = .ok (.istore 4, 2) := by decide +kernel
theorem dL_refuses_42 : decode cL_refuses 42 = .ok (.iload_n 1, 1) := by decide +kernel
theorem dL_refuses_43 : decode cL_refuses 43 = .ok (.iconst 2, 1) := by decide +kernel
theorem dL_refuses_44 : decode cL_refuses 44 = .ok (.irem, 1) := by decide +kernel
theorem dL_refuses_45 : decode cL_refuses 45 = .ok (.ifCond .ne 12, 3) := by decide +kernel
theorem dL_refuses_48 : decode cL_refuses 48 = .ok (.iconst (-1), 1) := by decide +kernel
theorem dL_refuses_49 : decode cL_refuses 49 = .ok (.iload_n 1, 1) := by decide +kernel
theorem dL_refuses_50 : decode cL_refuses 50 = .ok (.bipush 99, 2) := by decide +kernel
theorem dL_refuses_52 : decode cL_refuses 52 = .ok (.irem, 1) := by decide +kernel
theorem dL_refuses_53 : decode cL_refuses 53 = .ok (.isub, 1) := by decide +kernel
theorem dL_refuses_54 : decode cL_refuses 54 = .ok (.goto 10, 3) := by decide +kernel
theorem dL_refuses_57 : decode cL_refuses 57 = .ok (.bipush 24, 2) := by decide +kernel
theorem dL_refuses_59 : decode cL_refuses 59 = .ok (.iload_n 1, 1) := by decide +kernel
theorem dL_refuses_60 : decode cL_refuses 60 = .ok (.bipush 99, 2) := by decide +kernel
theorem dL_refuses_62 : decode cL_refuses 62 = .ok (.irem, 1) := by decide +kernel
theorem dL_refuses_63 : decode cL_refuses 63 = .ok (.iadd, 1) := by decide +kernel
theorem dL_refuses_64 : decode cL_refuses 64 = .ok (.istore 5, 2) := by decide +kernel
theorem dL_refuses_66 : decode cL_refuses 66 = .ok (.iload_n 1, 1) := by decide +kernel
theorem dL_refuses_67 : decode cL_refuses 67 = .ok (.iconst 2, 1) := by decide +kernel
theorem dL_refuses_68 : decode cL_refuses 68 = .ok (.irem, 1) := by decide +kernel
theorem dL_refuses_69 : decode cL_refuses 69 = .ok (.ifCond .ne 12, 3) := by decide +kernel
