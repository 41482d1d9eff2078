/-! p29: the law's instructions. -/
theorem dL_alike_116 : decode cL_alike 116 = .ok (.iconst 4, 1) := by decide +kernel
theorem dL_alike_117 : decode cL_alike 117 = .ok (.iload 4, 2) := by decide +kernel
theorem dL_alike_119 : decode cL_alike 119 = .ok (.iload_n 2, 1) := by decide +kernel
theorem dL_alike_120 : decode cL_alike 120 = .ok (.iconst 5, 1) := by decide +kernel
theorem dL_alike_121 : decode cL_alike 121 = .ok (.irem, 1) := by decide +kernel
theorem dL_alike_122 : decode cL_alike 122 = .ok (.iconst 0, 1) := by decide +kernel
theorem dL_alike_123 : decode cL_alike 123 = .ok (.invokestatic 164, 3) := by decide +kernel
theorem dL_alike_126 : decode cL_alike 126 = .ok (.if_icmp .ne 78, 3) := by decide +kernel
theorem dL_alike_129 : decode cL_alike 129 = .ok (.aload_n 0, 1) := by decide +kernel
theorem dL_alike_130 : decode cL_alike 130 = .ok (.bipush 6, 2) := by decide +kernel
theorem dL_alike_132 : decode cL_alike 132 = .ok (.iload 4, 2) := by decide +kernel
theorem dL_alike_134 : decode cL_alike 134 = .ok (.iconst 0, 1) := by decide +kernel
theorem dL_alike_135 : decode cL_alike 135 = .ok (.iconst 0, 1) := by decide +kernel
theorem dL_alike_136 : decode cL_alike 136 = .ok (.invokestatic 164, 3) := by decide +kernel
theorem dL_alike_139 : decode cL_alike 139 = .ok (.aload_n 1, 1) := by decide +kernel
theorem dL_alike_140 : decode cL_alike 140 = .ok (.bipush 6, 2) := by decide +kernel
theorem dL_alike_142 : decode cL_alike 142 = .ok (.iload 4, 2) := by decide +kernel
theorem dL_alike_144 : decode cL_alike 144 = .ok (.iconst 0, 1) := by decide +kernel
theorem dL_alike_145 : decode cL_alike 145 = .ok (.iconst 0, 1) := by decide +kernel
theorem dL_alike_146 : decode cL_alike 146 = .ok (.invokestatic 164, 3) := by decide +kernel
theorem dL_alike_149 : decode cL_alike 149 = .ok (.if_icmp .ne 55, 3) := by decide +kernel
theorem dL_alike_152 : decode cL_alike 152 = .ok (.aload_n 0, 1) := by decide +kernel
theorem dL_alike_153 : decode cL_alike 153 = .ok (.iconst 5, 1) := by decide +kernel
theorem dL_alike_154 : decode cL_alike 154 = .ok (.iload 4, 2) := by decide +kernel
theorem dL_alike_156 : decode cL_alike 156 = .ok (.iload_n 2, 1) := by decide +kernel
theorem dL_alike_157 : decode cL_alike 157 = .ok (.iconst 5, 1) := by decide +kernel
theorem dL_alike_158 : decode cL_alike 158 = .ok (.irem, 1) := by decide +kernel
theorem dL_alike_159 : decode cL_alike 159 = .ok (.iconst 0, 1) := by decide +kernel
theorem dL_alike_160 : decode cL_alike 160 = .ok (.invokestatic 164, 3) := by decide +kernel
theorem dL_alike_163 : decode cL_alike 163 = .ok (.aload_n 1, 1) := by decide +kernel
theorem dL_alike_164 : decode cL_alike 164 = .ok (.iconst 5, 1) := by decide +kernel
theorem dL_alike_165 : decode cL_alike 165 = .ok (.iload 4, 2) := by decide +kernel
theorem dL_alike_167 : decode cL_alike 167 = .ok (.iload_n 2, 1) := by decide +kernel
theorem dL_alike_168 : decode cL_alike 168 = .ok (.iconst 5, 1) := by decide +kernel
theorem dL_alike_169 : decode cL_alike 169 = .ok (.irem, 1) := by decide +kernel
theorem dL_alike_170 : decode cL_alike 170 = .ok (.iconst 0, 1) := by decide +kernel
theorem dL_alike_171 : decode cL_alike 171 = .ok (.invokestatic 164, 3) := by decide +kernel
theorem dL_alike_174 : decode cL_alike 174 = .ok (.if_icmp .ne 30, 3) := by decide +kernel
theorem dL_alike_177 : decode cL_alike 177 = .ok (.aload_n 0, 1) := by decide +kernel
theorem dL_alike_178 : decode cL_alike 178 = .ok (.bipush 8, 2) := by decide +kernel
theorem dL_alike_180 : decode cL_alike 180 = .ok (.iload 4, 2) := by decide +kernel
theorem dL_alike_182 : decode cL_alike 182 = .ok (.iconst 0, 1) := by decide +kernel
theorem dL_alike_183 : decode cL_alike 183 = .ok (.iconst 0, 1) := by decide +kernel
theorem dL_alike_184 : decode cL_alike 184 = .ok (.invokestatic 164, 3) := by decide +kernel
theorem dL_alike_187 : decode cL_alike 187 = .ok (.aload_n 1, 1) := by decide +kernel
theorem dL_alike_188 : decode cL_alike 188 = .ok (.bipush 8, 2) := by decide +kernel
theorem dL_alike_190 : decode cL_alike 190 = .ok (.iload 4, 2) := by decide +kernel
theorem dL_alike_192 : decode cL_alike 192 = .ok (.iconst 0, 1) := by decide +kernel
theorem dL_alike_193 : decode cL_alike 193 = .ok (.iconst 0, 1) := by decide +kernel
theorem dL_alike_194 : decode cL_alike 194 = .ok (.invokestatic 164, 3) := by decide +kernel
