/-! p29: the law's instructions. -/
theorem dL_alike_158 : decode cL_alike 158 = .ok (.irem, 1) := by decide +kernel
theorem dL_alike_159 : decode cL_alike 159 = .ok (.iconst 0, 1) := by decide +kernel
theorem dL_alike_160 : decode cL_alike 160 = .ok (.invokestatic 164, 3) := by decide +kernel
theorem dL_alike_163 : decode cL_alike 163 = .ok (.aload_n 1, 1) := by decide +kernel
theorem dL_alike_164 : decode cL_alike 164 = .ok (.iconst 5, 1) := by decide +kernel
theorem dL_alike_165 : decode cL_alike 165 = .ok (.iload 4, 2) := by decide +kernel
theorem dL_alike_167 : decode cL_alike 167 = .ok (.iload_n 2, 1) := by decide +kernel
theorem dL_alike_168 : decode cL_alike 168 = .ok (.iconst 5, 1) := by decide +kernel
theorem dL_alike_169 : decode cL_alike 169 = .ok (.irem, 1) := by decide +kernel
theorem dL_alike_170 : decode cL_alike 170 = .ok (.iconst 0, 1) := by decide +kernel
theorem dL_alike_171 : decode cL_alike 171 = .ok (.invokestatic 164, 3) := by decide +kernel
theorem dL_alike_174 : decode cL_alike 174 = .ok (.if_icmp .ne 30, 3) := by decide +kernel
theorem dL_alike_177 : decode cL_alike 177 = .ok (.aload_n 0, 1) := by decide +kernel
theorem dL_alike_178 : decode cL_alike 178 = .ok (.bipush 8, 2) := by decide +kernel
theorem dL_alike_180 : decode cL_alike 180 = .ok (.iload 4, 2) := by decide +kernel
theorem dL_alike_182 : decode cL_alike 182 = .ok (.iconst 0, 1) := by decide +kernel
theorem dL_alike_183 : decode cL_alike 183 = .ok (.iconst 0, 1) := by decide +kernel
theorem dL_alike_184 : decode cL_alike 184 = .ok (.invokestatic 164, 3) := by decide +kernel
theorem dL_alike_187 : decode cL_alike 187 = .ok (.aload_n 1, 1) := by decide +kernel
theorem dL_alike_188 : decode cL_alike 188 = .ok (.bipush 8, 2) := by decide +kernel
theorem dL_alike_190 : decode cL_alike 190 = .ok (.iload 4, 2) := by decide +kernel
theorem dL_alike_192 : decode cL_alike 192 = .ok (.iconst 0, 1) := by decide +kernel
theorem dL_alike_193 : decode cL_alike 193 = .ok (.iconst 0, 1) := by decide +kernel
theorem dL_alike_194 : decode cL_alike 194 = .ok (.invokestatic 164, 3) := by decide +kernel
theorem dL_alike_197 : decode cL_alike 197 = .ok (.if_icmp .ne 7, 3) := by decide +kernel
theorem dL_alike_200 : decode cL_alike 200 = .ok (.iconst 1, 1) := by decide +kernel
theorem dL_alike_201 : decode cL_alike 201 = .ok (.goto 4, 3) := by decide +kernel
theorem dL_alike_204 : decode cL_alike 204 = .ok (.iconst 0, 1) := by decide +kernel
theorem dL_alike_205 : decode cL_alike 205 = .ok (.istore_n 3, 1) := by decide +kernel
theorem dL_alike_206 : decode cL_alike 206 = .ok (.iinc 4 1, 3) := by decide +kernel
theorem dL_alike_209 : decode cL_alike 209 = .ok (.goto (-162), 3) := by decide +kernel
theorem dL_alike_212 : decode cL_alike 212 = .ok (.iload_n 3, 1) := by decide +kernel
theorem dL_alike_213 : decode cL_alike 213 = .ok (.ireturn, 1) := by decide +kernel
