/-! p29: the law's instructions. -/
theorem dL_holds_132 : decode cL_holds 132 = .ok (.aload_n 0, 1) := by decide +kernel
theorem dL_holds_133 : decode cL_holds 133 = .ok (.iconst 3, 1) := by decide +kernel
theorem dL_holds_134 : decode cL_holds 134 = .ok (.iload 10, 2) := by decide +kernel
theorem dL_holds_136 : decode cL_holds 136 = .ok (.iconst 1, 1) := by decide +kernel
theorem dL_holds_137 : decode cL_holds 137 = .ok (.iconst 0, 1) := by decide +kernel
theorem dL_holds_138 : decode cL_holds 138 = .ok (.invokestatic 164, 3) := by decide +kernel
theorem dL_holds_141 : decode cL_holds 141 = .ok (.istore 12, 2) := by decide +kernel
theorem dL_holds_143 : decode cL_holds 143 = .ok (.aload_n 0, 1) := by decide +kernel
theorem dL_holds_144 : decode cL_holds 144 = .ok (.iconst 3, 1) := by decide +kernel
theorem dL_holds_145 : decode cL_holds 145 = .ok (.iload 10, 2) := by decide +kernel
theorem dL_holds_147 : decode cL_holds 147 = .ok (.iconst 2, 1) := by decide +kernel
theorem dL_holds_148 : decode cL_holds 148 = .ok (.iconst 0, 1) := by decide +kernel
theorem dL_holds_149 : decode cL_holds 149 = .ok (.invokestatic 164, 3) := by decide +kernel
theorem dL_holds_152 : decode cL_holds 152 = .ok (.istore 13, 2) := by decide +kernel
theorem dL_holds_154 : decode cL_holds 154 = .ok (.aload_n 0, 1) := by decide +kernel
theorem dL_holds_155 : decode cL_holds 155 = .ok (.iconst 3, 1) := by decide +kernel
theorem dL_holds_156 : decode cL_holds 156 = .ok (.iload 10, 2) := by decide +kernel
theorem dL_holds_158 : decode cL_holds 158 = .ok (.iconst 3, 1) := by decide +kernel
theorem dL_holds_159 : decode cL_holds 159 = .ok (.iconst 0, 1) := by decide +kernel
theorem dL_holds_160 : decode cL_holds 160 = .ok (.invokestatic 164, 3) := by decide +kernel
theorem dL_holds_163 : decode cL_holds 163 = .ok (.istore 14, 2) := by decide +kernel
theorem dL_holds_165 : decode cL_holds 165 = .ok (.iload 6, 2) := by decide +kernel
theorem dL_holds_167 : decode cL_holds 167 = .ok (.iload 13, 2) := by decide +kernel
theorem dL_holds_169 : decode cL_holds 169 = .ok (.iadd, 1) := by decide +kernel
theorem dL_holds_170 : decode cL_holds 170 = .ok (.istore 6, 2) := by decide +kernel
theorem dL_holds_172 : decode cL_holds 172 = .ok (.iload 13, 2) := by decide +kernel
theorem dL_holds_174 : decode cL_holds 174 = .ok (.ifCond .le 28, 3) := by decide +kernel
theorem dL_holds_177 : decode cL_holds 177 = .ok (.iload 13, 2) := by decide +kernel
theorem dL_holds_179 : decode cL_holds 179 = .ok (.bipush 6, 2) := by decide +kernel
theorem dL_holds_181 : decode cL_holds 181 = .ok (.if_icmp .gt 21, 3) := by decide +kernel
theorem dL_holds_184 : decode cL_holds 184 = .ok (.iload 14, 2) := by decide +kernel
theorem dL_holds_186 : decode cL_holds 186 = .ok (.iload 7, 2) := by decide +kernel
theorem dL_holds_188 : decode cL_holds 188 = .ok (.if_icmp .le 14, 3) := by decide +kernel
theorem dL_holds_191 : decode cL_holds 191 = .ok (.iload 14, 2) := by decide +kernel
theorem dL_holds_193 : decode cL_holds 193 = .ok (.iload 5, 2) := by decide +kernel
theorem dL_holds_195 : decode cL_holds 195 = .ok (.if_icmp .gt 7, 3) := by decide +kernel
theorem dL_holds_198 : decode cL_holds 198 = .ok (.iconst 1, 1) := by decide +kernel
theorem dL_holds_199 : decode cL_holds 199 = .ok (.goto 4, 3) := by decide +kernel
theorem dL_holds_202 : decode cL_holds 202 = .ok (.iconst 0, 1) := by decide +kernel
theorem dL_holds_203 : decode cL_holds 203 = .ok (.istore 9, 2) := by decide +kernel
theorem dL_holds_205 : decode cL_holds 205 = .ok (.iload 14, 2) := by decide +kernel
theorem dL_holds_207 : decode cL_holds 207 = .ok (.istore 7, 2) := by decide +kernel
theorem dL_holds_209 : decode cL_holds 209 = .ok (.iconst 0, 1) := by decide +kernel
theorem dL_holds_210 : decode cL_holds 210 = .ok (.istore 15, 2) := by decide +kernel
theorem dL_holds_212 : decode cL_holds 212 = .ok (.iload 15, 2) := by decide +kernel
theorem dL_holds_214 : decode cL_holds 214 = .ok (.iload 13, 2) := by decide +kernel
theorem dL_holds_216 : decode cL_holds 216 = .ok (.if_icmp .ge 46, 3) := by decide +kernel
theorem dL_holds_219 : decode cL_holds 219 = .ok (.iload 9, 2) := by decide +kernel
theorem dL_holds_221 : decode cL_holds 221 = .ok (.ifCond .eq 41, 3) := by decide +kernel
theorem dL_holds_224 : decode cL_holds 224 = .ok (.aload_n 0, 1) := by decide +kernel
