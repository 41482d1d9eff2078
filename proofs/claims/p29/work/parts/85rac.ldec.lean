/-! p29: the law's instructions. -/
theorem dL_refuses_147 : decode cL_refuses 147 = .ok (.irem, 1) := by decide +kernel
theorem dL_refuses_148 : decode cL_refuses 148 = .ok (.ifCond .ne 7, 3) := by decide +kernel
theorem dL_refuses_151 : decode cL_refuses 151 = .ok (.iconst (-1), 1) := by decide +kernel
theorem dL_refuses_152 : decode cL_refuses 152 = .ok (.goto 9, 3) := by decide +kernel
theorem dL_refuses_155 : decode cL_refuses 155 = .ok (.iload_n 2, 1) := by decide +kernel
theorem dL_refuses_156 : decode cL_refuses 156 = .ok (.iload_n 1, 1) := by decide +kernel
theorem dL_refuses_157 : decode cL_refuses 157 = .ok (.bipush 9, 2) := by decide +kernel
theorem dL_refuses_159 : decode cL_refuses 159 = .ok (.irem, 1) := by decide +kernel
theorem dL_refuses_160 : decode cL_refuses 160 = .ok (.iadd, 1) := by decide +kernel
theorem dL_refuses_161 : decode cL_refuses 161 = .ok (.bipush 99, 2) := by decide +kernel
theorem dL_refuses_163 : decode cL_refuses 163 = .ok (.iconst 0, 1) := by decide +kernel
theorem dL_refuses_164 : decode cL_refuses 164 = .ok (.invokestatic 164, 3) := by decide +kernel
theorem dL_refuses_167 : decode cL_refuses 167 = .ok (.ldc 40, 2) := by decide +kernel
theorem dL_refuses_169 : decode cL_refuses 169 = .ok (.if_icmp .ne 586, 3) := by decide +kernel
theorem dL_refuses_172 : decode cL_refuses 172 = .ok (.iload_n 2, 1) := by decide +kernel
theorem dL_refuses_173 : decode cL_refuses 173 = .ok (.ifCond .eq 21, 3) := by decide +kernel
theorem dL_refuses_176 : decode cL_refuses 176 = .ok (.aload_n 0, 1) := by decide +kernel
theorem dL_refuses_177 : decode cL_refuses 177 = .ok (.iconst 3, 1) := by decide +kernel
theorem dL_refuses_178 : decode cL_refuses 178 = .ok (.iconst 0, 1) := by decide +kernel
theorem dL_refuses_179 : decode cL_refuses 179 = .ok (.iconst 4, 1) := by decide +kernel
theorem dL_refuses_180 : decode cL_refuses 180 = .ok (.iload_n 1, 1) := by decide +kernel
theorem dL_refuses_181 : decode cL_refuses 181 = .ok (.bipush 9, 2) := by decide +kernel
theorem dL_refuses_183 : decode cL_refuses 183 = .ok (.irem, 1) := by decide +kernel
theorem dL_refuses_184 : decode cL_refuses 184 = .ok (.iadd, 1) := by decide +kernel
theorem dL_refuses_185 : decode cL_refuses 185 = .ok (.iconst 0, 1) := by decide +kernel
theorem dL_refuses_186 : decode cL_refuses 186 = .ok (.invokestatic 164, 3) := by decide +kernel
theorem dL_refuses_189 : decode cL_refuses 189 = .ok (.ldc 15, 2) := by decide +kernel
theorem dL_refuses_191 : decode cL_refuses 191 = .ok (.if_icmp .ne 564, 3) := by decide +kernel
theorem dL_refuses_194 : decode cL_refuses 194 = .ok (.aload_n 0, 1) := by decide +kernel
theorem dL_refuses_195 : decode cL_refuses 195 = .ok (.iconst 4, 1) := by decide +kernel
theorem dL_refuses_196 : decode cL_refuses 196 = .ok (.iload 6, 2) := by decide +kernel
theorem dL_refuses_198 : decode cL_refuses 198 = .ok (.bipush 99, 2) := by decide +kernel
theorem dL_refuses_200 : decode cL_refuses 200 = .ok (.iconst 0, 1) := by decide +kernel
theorem dL_refuses_201 : decode cL_refuses 201 = .ok (.invokestatic 164, 3) := by decide +kernel
theorem dL_refuses_204 : decode cL_refuses 204 = .ok (.ldc 40, 2) := by decide +kernel
theorem dL_refuses_206 : decode cL_refuses 206 = .ok (.if_icmp .ne 549, 3) := by decide +kernel
theorem dL_refuses_209 : decode cL_refuses 209 = .ok (.iload_n 3, 1) := by decide +kernel
theorem dL_refuses_210 : decode cL_refuses 210 = .ok (.ifCond .eq 21, 3) := by decide +kernel
theorem dL_refuses_213 : decode cL_refuses 213 = .ok (.aload_n 0, 1) := by decide +kernel
theorem dL_refuses_214 : decode cL_refuses 214 = .ok (.iconst 4, 1) := by decide +kernel
theorem dL_refuses_215 : decode cL_refuses 215 = .ok (.iconst 0, 1) := by decide +kernel
theorem dL_refuses_216 : decode cL_refuses 216 = .ok (.iconst 5, 1) := by decide +kernel
theorem dL_refuses_217 : decode cL_refuses 217 = .ok (.iload_n 1, 1) := by decide +kernel
theorem dL_refuses_218 : decode cL_refuses 218 = .ok (.bipush 9, 2) := by decide +kernel
theorem dL_refuses_220 : decode cL_refuses 220 = .ok (.irem, 1) := by decide +kernel
theorem dL_refuses_221 : decode cL_refuses 221 = .ok (.iadd, 1) := by decide +kernel
theorem dL_refuses_222 : decode cL_refuses 222 = .ok (.iconst 0, 1) := by decide +kernel
theorem dL_refuses_223 : decode cL_refuses 223 = .ok (.invokestatic 164, 3) := by decide +kernel
theorem dL_refuses_226 : decode cL_refuses 226 = .ok (.ldc 15, 2) := by decide +kernel
theorem dL_refuses_228 : decode cL_refuses 228 = .ok (.if_icmp .ne 527, 3) := by decide +kernel
