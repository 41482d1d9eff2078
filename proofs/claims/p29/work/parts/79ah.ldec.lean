/-! p29: the law's instructions. -/
theorem dL_refuses_43 : decode cL_refuses 43 = .ok (.iconst 2, 1) := by decide +kernel
theorem dL_refuses_44 : decode cL_refuses 44 = .ok (.irem, 1) := by decide +kernel
theorem dL_refuses_45 : decode cL_refuses 45 = .ok (.ifCond .ne 12, 3) := by decide +kernel
theorem dL_refuses_48 : decode cL_refuses 48 = .ok (.iconst (-1), 1) := by decide +kernel
theorem dL_refuses_49 : decode cL_refuses 49 = .ok (.iload_n 1, 1) := by decide +kernel
theorem dL_refuses_50 : decode cL_refuses 50 = .ok (.bipush 99, 2) := by decide +kernel
theorem dL_refuses_52 : decode cL_refuses 52 = .ok (.irem, 1) := by decide +kernel
theorem dL_refuses_53 : decode cL_refuses 53 = .ok (.isub, 1) := by decide +kernel
theorem dL_refuses_54 : decode cL_refuses 54 = .ok (.goto 10, 3) := by decide +kernel
theorem dL_refuses_57 : decode cL_refuses 57 = .ok (.bipush 24, 2) := by decide +kernel
theorem dL_refuses_59 : decode cL_refuses 59 = .ok (.iload_n 1, 1) := by decide +kernel
theorem dL_refuses_60 : decode cL_refuses 60 = .ok (.bipush 99, 2) := by decide +kernel
theorem dL_refuses_62 : decode cL_refuses 62 = .ok (.irem, 1) := by decide +kernel
theorem dL_refuses_63 : decode cL_refuses 63 = .ok (.iadd, 1) := by decide +kernel
theorem dL_refuses_64 : decode cL_refuses 64 = .ok (.istore 5, 2) := by decide +kernel
theorem dL_refuses_66 : decode cL_refuses 66 = .ok (.iload_n 1, 1) := by decide +kernel
theorem dL_refuses_67 : decode cL_refuses 67 = .ok (.iconst 2, 1) := by decide +kernel
theorem dL_refuses_68 : decode cL_refuses 68 = .ok (.irem, 1) := by decide +kernel
theorem dL_refuses_69 : decode cL_refuses 69 = .ok (.ifCond .ne 12, 3) := by decide +kernel
theorem dL_refuses_72 : decode cL_refuses 72 = .ok (.iconst (-1), 1) := by decide +kernel
theorem dL_refuses_73 : decode cL_refuses 73 = .ok (.iload_n 1, 1) := by decide +kernel
theorem dL_refuses_74 : decode cL_refuses 74 = .ok (.bipush 99, 2) := by decide +kernel
theorem dL_refuses_76 : decode cL_refuses 76 = .ok (.irem, 1) := by decide +kernel
theorem dL_refuses_77 : decode cL_refuses 77 = .ok (.isub, 1) := by decide +kernel
theorem dL_refuses_78 : decode cL_refuses 78 = .ok (.goto 9, 3) := by decide +kernel
theorem dL_refuses_81 : decode cL_refuses 81 = .ok (.iload_n 3, 1) := by decide +kernel
theorem dL_refuses_82 : decode cL_refuses 82 = .ok (.iload_n 1, 1) := by decide +kernel
theorem dL_refuses_83 : decode cL_refuses 83 = .ok (.bipush 99, 2) := by decide +kernel
theorem dL_refuses_85 : decode cL_refuses 85 = .ok (.irem, 1) := by decide +kernel
theorem dL_refuses_86 : decode cL_refuses 86 = .ok (.iadd, 1) := by decide +kernel
theorem dL_refuses_87 : decode cL_refuses 87 = .ok (.istore 6, 2) := by decide +kernel
theorem dL_refuses_89 : decode cL_refuses 89 = .ok (.aload_n 0, 1) := by decide +kernel
theorem dL_refuses_90 : decode cL_refuses 90 = .ok (.iconst 0, 1) := by decide +kernel
theorem dL_refuses_91 : decode cL_refuses 91 = .ok (.iload_n 1, 1) := by decide +kernel
theorem dL_refuses_92 : decode cL_refuses 92 = .ok (.iconst 2, 1) := by decide +kernel
theorem dL_refuses_93 : decode cL_refuses 93 = .ok (.irem, 1) := by decide +kernel
theorem dL_refuses_94 : decode cL_refuses 94 = .ok (.ifCond .ne 12, 3) := by decide +kernel
theorem dL_refuses_97 : decode cL_refuses 97 = .ok (.iconst (-1), 1) := by decide +kernel
theorem dL_refuses_98 : decode cL_refuses 98 = .ok (.iload_n 1, 1) := by decide +kernel
theorem dL_refuses_99 : decode cL_refuses 99 = .ok (.bipush 9, 2) := by decide +kernel
theorem dL_refuses_101 : decode cL_refuses 101 = .ok (.irem, 1) := by decide +kernel
theorem dL_refuses_102 : decode cL_refuses 102 = .ok (.isub, 1) := by decide +kernel
theorem dL_refuses_103 : decode cL_refuses 103 = .ok (.goto 11, 3) := by decide +kernel
theorem dL_refuses_106 : decode cL_refuses 106 = .ok (.sipush 256, 3) := by decide +kernel
theorem dL_refuses_109 : decode cL_refuses 109 = .ok (.iload_n 1, 1) := by decide +kernel
theorem dL_refuses_110 : decode cL_refuses 110 = .ok (.bipush 9, 2) := by decide +kernel
theorem dL_refuses_112 : decode cL_refuses 112 = .ok (.irem, 1) := by decide +kernel
theorem dL_refuses_113 : decode cL_refuses 113 = .ok (.iadd, 1) := by decide +kernel
theorem dL_refuses_114 : decode cL_refuses 114 = .ok (.iconst 0, 1) := by decide +kernel
theorem dL_refuses_115 : decode cL_refuses 115 = .ok (.iconst 0, 1) := by decide +kernel
