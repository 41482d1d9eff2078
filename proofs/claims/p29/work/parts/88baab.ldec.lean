/-! p29: the law's instructions. -/
theorem dL_least_85 : decode cL_least 85 = .ok (.invokestatic 164, 3) := by decide +kernel
theorem dL_least_88 : decode cL_least 88 = .ok (.iload 9, 2) := by decide +kernel
theorem dL_least_90 : decode cL_least 90 = .ok (.if_icmp .ne 89, 3) := by decide +kernel
theorem dL_least_93 : decode cL_least 93 = .ok (.aload_n 0, 1) := by decide +kernel
theorem dL_least_94 : decode cL_least 94 = .ok (.aload_n 1, 1) := by decide +kernel
theorem dL_least_95 : decode cL_least 95 = .ok (.iload_n 3, 1) := by decide +kernel
theorem dL_least_96 : decode cL_least 96 = .ok (.invokestatic 218, 3) := by decide +kernel
theorem dL_least_99 : decode cL_least 99 = .ok (.ifCond .eq 80, 3) := by decide +kernel
theorem dL_least_102 : decode cL_least 102 = .ok (.aload_n 0, 1) := by decide +kernel
theorem dL_least_103 : decode cL_least 103 = .ok (.iconst 2, 1) := by decide +kernel
theorem dL_least_104 : decode cL_least 104 = .ok (.bipush 10, 2) := by decide +kernel
theorem dL_least_106 : decode cL_least 106 = .ok (.iconst 0, 1) := by decide +kernel
theorem dL_least_107 : decode cL_least 107 = .ok (.iconst 0, 1) := by decide +kernel
theorem dL_least_108 : decode cL_least 108 = .ok (.invokestatic 164, 3) := by decide +kernel
theorem dL_least_111 : decode cL_least 111 = .ok (.iload 5, 2) := by decide +kernel
theorem dL_least_113 : decode cL_least 113 = .ok (.if_icmp .ne 7, 3) := by decide +kernel
theorem dL_least_116 : decode cL_least 116 = .ok (.iconst 1, 1) := by decide +kernel
theorem dL_least_117 : decode cL_least 117 = .ok (.goto 4, 3) := by decide +kernel
theorem dL_least_120 : decode cL_least 120 = .ok (.iconst 0, 1) := by decide +kernel
theorem dL_least_121 : decode cL_least 121 = .ok (.iload 8, 2) := by decide +kernel
theorem dL_least_123 : decode cL_least 123 = .ok (.iload 4, 2) := by decide +kernel
theorem dL_least_125 : decode cL_least 125 = .ok (.if_icmp .ne 7, 3) := by decide +kernel
theorem dL_least_128 : decode cL_least 128 = .ok (.iconst 1, 1) := by decide +kernel
theorem dL_least_129 : decode cL_least 129 = .ok (.goto 4, 3) := by decide +kernel
theorem dL_least_132 : decode cL_least 132 = .ok (.iconst 0, 1) := by decide +kernel
theorem dL_least_133 : decode cL_least 133 = .ok (.if_icmp .ne 46, 3) := by decide +kernel
theorem dL_least_136 : decode cL_least 136 = .ok (.aload_n 0, 1) := by decide +kernel
theorem dL_least_137 : decode cL_least 137 = .ok (.aload_n 1, 1) := by decide +kernel
theorem dL_least_138 : decode cL_least 138 = .ok (.iload_n 3, 1) := by decide +kernel
theorem dL_least_139 : decode cL_least 139 = .ok (.invokestatic 221, 3) := by decide +kernel
theorem dL_least_142 : decode cL_least 142 = .ok (.ifCond .eq 37, 3) := by decide +kernel
theorem dL_least_145 : decode cL_least 145 = .ok (.aload_n 0, 1) := by decide +kernel
theorem dL_least_146 : decode cL_least 146 = .ok (.bipush 14, 2) := by decide +kernel
theorem dL_least_148 : decode cL_least 148 = .ok (.iconst 0, 1) := by decide +kernel
theorem dL_least_149 : decode cL_least 149 = .ok (.iconst 0, 1) := by decide +kernel
theorem dL_least_150 : decode cL_least 150 = .ok (.iconst 0, 1) := by decide +kernel
theorem dL_least_151 : decode cL_least 151 = .ok (.invokestatic 164, 3) := by decide +kernel
theorem dL_least_154 : decode cL_least 154 = .ok (.invokestatic 214, 3) := by decide +kernel
theorem dL_least_157 : decode cL_least 157 = .ok (.ifCond .ne 22, 3) := by decide +kernel
theorem dL_least_160 : decode cL_least 160 = .ok (.aload_n 1, 1) := by decide +kernel
theorem dL_least_161 : decode cL_least 161 = .ok (.bipush 14, 2) := by decide +kernel
theorem dL_least_163 : decode cL_least 163 = .ok (.iconst 0, 1) := by decide +kernel
theorem dL_least_164 : decode cL_least 164 = .ok (.iconst 0, 1) := by decide +kernel
theorem dL_least_165 : decode cL_least 165 = .ok (.iconst 0, 1) := by decide +kernel
theorem dL_least_166 : decode cL_least 166 = .ok (.invokestatic 164, 3) := by decide +kernel
theorem dL_least_169 : decode cL_least 169 = .ok (.invokestatic 214, 3) := by decide +kernel
theorem dL_least_172 : decode cL_least 172 = .ok (.ifCond .ne 7, 3) := by decide +kernel
theorem dL_least_175 : decode cL_least 175 = .ok (.iconst 1, 1) := by decide +kernel
theorem dL_least_176 : decode cL_least 176 = .ok (.goto 4, 3) := by decide +kernel
theorem dL_least_179 : decode cL_least 179 = .ok (.iconst 0, 1) := by decide +kernel
