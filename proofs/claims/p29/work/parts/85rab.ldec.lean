/-! p29: the law's instructions. -/
theorem dL_refuses_72 : decode cL_refuses 72 = .ok (.iconst (-1), 1) := by decide +kernel
theorem dL_refuses_73 : decode cL_refuses 73 = .ok (.iload_n 1, 1) := by decide +kernel
theorem dL_refuses_74 : decode cL_refuses 74 = .ok (.bipush 99, 2) := by decide +kernel
theorem dL_refuses_76 : decode cL_refuses 76 = .ok (.irem, 1) := by decide +kernel
theorem dL_refuses_77 : decode cL_refuses 77 = .ok (.isub, 1) := by decide +kernel
theorem dL_refuses_78 : decode cL_refuses 78 = .ok (.goto 9, 3) := by decide +kernel
theorem dL_refuses_81 : decode cL_refuses 81 = .ok (.iload_n 3, 1) := by decide +kernel
theorem dL_refuses_82 : decode cL_refuses 82 = .ok (.iload_n 1, 1) := by decide +kernel
theorem dL_refuses_83 : decode cL_refuses 83 = .ok (.bipush 99, 2) := by decide +kernel
theorem dL_refuses_85 : decode cL_refuses 85 = .ok (.irem, 1) := by decide +kernel
theorem dL_refuses_86 : decode cL_refuses 86 = .ok (.iadd, 1) := by decide +kernel
theorem dL_refuses_87 : decode cL_refuses 87 = .ok (.istore 6, 2) := by decide +kernel
theorem dL_refuses_89 : decode cL_refuses 89 = .ok (.aload_n 0, 1) := by decide +kernel
theorem dL_refuses_90 : decode cL_refuses 90 = .ok (.iconst 0, 1) := by decide +kernel
theorem dL_refuses_91 : decode cL_refuses 91 = .ok (.iload_n 1, 1) := by decide +kernel
theorem dL_refuses_92 : decode cL_refuses 92 = .ok (.iconst 2, 1) := by decide +kernel
theorem dL_refuses_93 : decode cL_refuses 93 = .ok (.irem, 1) := by decide +kernel
theorem dL_refuses_94 : decode cL_refuses 94 = .ok (.ifCond .ne 12, 3) := by decide +kernel
theorem dL_refuses_97 : decode cL_refuses 97 = .ok (.iconst (-1), 1) := by decide +kernel
theorem dL_refuses_98 : decode cL_refuses 98 = .ok (.iload_n 1, 1) := by decide +kernel
theorem dL_refuses_99 : decode cL_refuses 99 = .ok (.bipush 9, 2) := by decide +kernel
theorem dL_refuses_101 : decode cL_refuses 101 = .ok (.irem, 1) := by decide +kernel
theorem dL_refuses_102 : decode cL_refuses 102 = .ok (.isub, 1) := by decide +kernel
theorem dL_refuses_103 : decode cL_refuses 103 = .ok (.goto 11, 3) := by decide +kernel
theorem dL_refuses_106 : decode cL_refuses 106 = .ok (.sipush 256, 3) := by decide +kernel
theorem dL_refuses_109 : decode cL_refuses 109 = .ok (.iload_n 1, 1) := by decide +kernel
theorem dL_refuses_110 : decode cL_refuses 110 = .ok (.bipush 9, 2) := by decide +kernel
theorem dL_refuses_112 : decode cL_refuses 112 = .ok (.irem, 1) := by decide +kernel
theorem dL_refuses_113 : decode cL_refuses 113 = .ok (.iadd, 1) := by decide +kernel
theorem dL_refuses_114 : decode cL_refuses 114 = .ok (.iconst 0, 1) := by decide +kernel
theorem dL_refuses_115 : decode cL_refuses 115 = .ok (.iconst 0, 1) := by decide +kernel
theorem dL_refuses_116 : decode cL_refuses 116 = .ok (.invokestatic 164, 3) := by decide +kernel
theorem dL_refuses_119 : decode cL_refuses 119 = .ok (.ldc 15, 2) := by decide +kernel
theorem dL_refuses_121 : decode cL_refuses 121 = .ok (.if_icmp .ne 634, 3) := by decide +kernel
theorem dL_refuses_124 : decode cL_refuses 124 = .ok (.aload_n 0, 1) := by decide +kernel
theorem dL_refuses_125 : decode cL_refuses 125 = .ok (.iconst 2, 1) := by decide +kernel
theorem dL_refuses_126 : decode cL_refuses 126 = .ok (.bipush 12, 2) := by decide +kernel
theorem dL_refuses_128 : decode cL_refuses 128 = .ok (.iload_n 1, 1) := by decide +kernel
theorem dL_refuses_129 : decode cL_refuses 129 = .ok (.bipush 50, 2) := by decide +kernel
theorem dL_refuses_131 : decode cL_refuses 131 = .ok (.irem, 1) := by decide +kernel
theorem dL_refuses_132 : decode cL_refuses 132 = .ok (.iadd, 1) := by decide +kernel
theorem dL_refuses_133 : decode cL_refuses 133 = .ok (.iconst 0, 1) := by decide +kernel
theorem dL_refuses_134 : decode cL_refuses 134 = .ok (.iconst 0, 1) := by decide +kernel
theorem dL_refuses_135 : decode cL_refuses 135 = .ok (.invokestatic 164, 3) := by decide +kernel
theorem dL_refuses_138 : decode cL_refuses 138 = .ok (.ldc 15, 2) := by decide +kernel
theorem dL_refuses_140 : decode cL_refuses 140 = .ok (.if_icmp .ne 615, 3) := by decide +kernel
theorem dL_refuses_143 : decode cL_refuses 143 = .ok (.aload_n 0, 1) := by decide +kernel
theorem dL_refuses_144 : decode cL_refuses 144 = .ok (.iconst 3, 1) := by decide +kernel
theorem dL_refuses_145 : decode cL_refuses 145 = .ok (.iload_n 1, 1) := by decide +kernel
theorem dL_refuses_146 : decode cL_refuses 146 = .ok (.iconst 2, 1) := by decide +kernel
