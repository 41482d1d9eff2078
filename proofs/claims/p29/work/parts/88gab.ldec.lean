/-! p29: the law's instructions. -/
theorem dL_goes_83 : decode cL_goes 83 = .ok (.if_icmp .eq 7, 3) := by decide +kernel
theorem dL_goes_86 : decode cL_goes 86 = .ok (.iconst 1, 1) := by decide +kernel
theorem dL_goes_87 : decode cL_goes 87 = .ok (.goto 4, 3) := by decide +kernel
theorem dL_goes_90 : decode cL_goes 90 = .ok (.iconst 0, 1) := by decide +kernel
theorem dL_goes_91 : decode cL_goes 91 = .ok (.if_icmp .ne 40, 3) := by decide +kernel
theorem dL_goes_94 : decode cL_goes 94 = .ok (.iload 5, 2) := by decide +kernel
theorem dL_goes_96 : decode cL_goes 96 = .ok (.iconst (-1), 1) := by decide +kernel
theorem dL_goes_97 : decode cL_goes 97 = .ok (.if_icmp .eq 20, 3) := by decide +kernel
theorem dL_goes_100 : decode cL_goes 100 = .ok (.aload_n 0, 1) := by decide +kernel
theorem dL_goes_101 : decode cL_goes 101 = .ok (.iconst 2, 1) := by decide +kernel
theorem dL_goes_102 : decode cL_goes 102 = .ok (.bipush 7, 2) := by decide +kernel
theorem dL_goes_104 : decode cL_goes 104 = .ok (.iconst 0, 1) := by decide +kernel
theorem dL_goes_105 : decode cL_goes 105 = .ok (.iconst 0, 1) := by decide +kernel
theorem dL_goes_106 : decode cL_goes 106 = .ok (.invokestatic 164, 3) := by decide +kernel
theorem dL_goes_109 : decode cL_goes 109 = .ok (.iload_n 3, 1) := by decide +kernel
theorem dL_goes_110 : decode cL_goes 110 = .ok (.ishr, 1) := by decide +kernel
theorem dL_goes_111 : decode cL_goes 111 = .ok (.iconst 1, 1) := by decide +kernel
theorem dL_goes_112 : decode cL_goes 112 = .ok (.iand, 1) := by decide +kernel
theorem dL_goes_113 : decode cL_goes 113 = .ok (.iconst 1, 1) := by decide +kernel
theorem dL_goes_114 : decode cL_goes 114 = .ok (.if_icmp .ne 17, 3) := by decide +kernel
theorem dL_goes_117 : decode cL_goes 117 = .ok (.aload_n 0, 1) := by decide +kernel
theorem dL_goes_118 : decode cL_goes 118 = .ok (.aload_n 1, 1) := by decide +kernel
theorem dL_goes_119 : decode cL_goes 119 = .ok (.iload 6, 2) := by decide +kernel
theorem dL_goes_121 : decode cL_goes 121 = .ok (.invokestatic 221, 3) := by decide +kernel
theorem dL_goes_124 : decode cL_goes 124 = .ok (.ifCond .eq 7, 3) := by decide +kernel
theorem dL_goes_127 : decode cL_goes 127 = .ok (.iconst 1, 1) := by decide +kernel
theorem dL_goes_128 : decode cL_goes 128 = .ok (.goto 4, 3) := by decide +kernel
theorem dL_goes_131 : decode cL_goes 131 = .ok (.iconst 0, 1) := by decide +kernel
theorem dL_goes_132 : decode cL_goes 132 = .ok (.istore 8, 2) := by decide +kernel
theorem dL_goes_134 : decode cL_goes 134 = .ok (.iload 6, 2) := by decide +kernel
theorem dL_goes_136 : decode cL_goes 136 = .ok (.iconst 1, 1) := by decide +kernel
theorem dL_goes_137 : decode cL_goes 137 = .ok (.if_icmp .le 52, 3) := by decide +kernel
theorem dL_goes_140 : decode cL_goes 140 = .ok (.iload 8, 2) := by decide +kernel
theorem dL_goes_142 : decode cL_goes 142 = .ok (.ifCond .eq 47, 3) := by decide +kernel
theorem dL_goes_145 : decode cL_goes 145 = .ok (.aload_n 0, 1) := by decide +kernel
theorem dL_goes_146 : decode cL_goes 146 = .ok (.aload_n 1, 1) := by decide +kernel
theorem dL_goes_147 : decode cL_goes 147 = .ok (.iload 6, 2) := by decide +kernel
theorem dL_goes_149 : decode cL_goes 149 = .ok (.iconst 1, 1) := by decide +kernel
theorem dL_goes_150 : decode cL_goes 150 = .ok (.isub, 1) := by decide +kernel
theorem dL_goes_151 : decode cL_goes 151 = .ok (.invokestatic 218, 3) := by decide +kernel
theorem dL_goes_154 : decode cL_goes 154 = .ok (.ifCond .eq 32, 3) := by decide +kernel
theorem dL_goes_157 : decode cL_goes 157 = .ok (.aload_n 0, 1) := by decide +kernel
theorem dL_goes_158 : decode cL_goes 158 = .ok (.iconst 5, 1) := by decide +kernel
theorem dL_goes_159 : decode cL_goes 159 = .ok (.iload_n 3, 1) := by decide +kernel
theorem dL_goes_160 : decode cL_goes 160 = .ok (.iconst 3, 1) := by decide +kernel
theorem dL_goes_161 : decode cL_goes 161 = .ok (.iconst 0, 1) := by decide +kernel
theorem dL_goes_162 : decode cL_goes 162 = .ok (.invokestatic 164, 3) := by decide +kernel
theorem dL_goes_165 : decode cL_goes 165 = .ok (.iload 4, 2) := by decide +kernel
theorem dL_goes_167 : decode cL_goes 167 = .ok (.if_icmp .ne 19, 3) := by decide +kernel
theorem dL_goes_170 : decode cL_goes 170 = .ok (.aload_n 0, 1) := by decide +kernel
