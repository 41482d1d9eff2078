/-! p29: the law's instructions. -/
theorem dL_least_180 : decode cL_least 180 = .ok (.istore 7, 2) := by decide +kernel
theorem dL_least_182 : decode cL_least 182 = .ok (.iinc 8 1, 3) := by decide +kernel
theorem dL_least_185 : decode cL_least 185 = .ok (.goto (-136), 3) := by decide +kernel
theorem dL_least_188 : decode cL_least 188 = .ok (.iload 7, 2) := by decide +kernel
theorem dL_least_190 : decode cL_least 190 = .ok (.ifCond .eq 35, 3) := by decide +kernel
theorem dL_least_193 : decode cL_least 193 = .ok (.aload_n 0, 1) := by decide +kernel
theorem dL_least_194 : decode cL_least 194 = .ok (.iconst 2, 1) := by decide +kernel
theorem dL_least_195 : decode cL_least 195 = .ok (.bipush 10, 2) := by decide +kernel
theorem dL_least_197 : decode cL_least 197 = .ok (.iconst 0, 1) := by decide +kernel
theorem dL_least_198 : decode cL_least 198 = .ok (.iconst 0, 1) := by decide +kernel
theorem dL_least_199 : decode cL_least 199 = .ok (.invokestatic 164, 3) := by decide +kernel
theorem dL_least_202 : decode cL_least 202 = .ok (.iload 5, 2) := by decide +kernel
theorem dL_least_204 : decode cL_least 204 = .ok (.if_icmp .ne 21, 3) := by decide +kernel
theorem dL_least_207 : decode cL_least 207 = .ok (.aload_n 0, 1) := by decide +kernel
theorem dL_least_208 : decode cL_least 208 = .ok (.bipush 17, 2) := by decide +kernel
theorem dL_least_210 : decode cL_least 210 = .ok (.iload_n 3, 1) := by decide +kernel
theorem dL_least_211 : decode cL_least 211 = .ok (.iconst 0, 1) := by decide +kernel
theorem dL_least_212 : decode cL_least 212 = .ok (.iconst 0, 1) := by decide +kernel
theorem dL_least_213 : decode cL_least 213 = .ok (.invokestatic 164, 3) := by decide +kernel
theorem dL_least_216 : decode cL_least 216 = .ok (.iload 4, 2) := by decide +kernel
theorem dL_least_218 : decode cL_least 218 = .ok (.if_icmp .ne 7, 3) := by decide +kernel
theorem dL_least_221 : decode cL_least 221 = .ok (.iconst 1, 1) := by decide +kernel
theorem dL_least_222 : decode cL_least 222 = .ok (.goto 4, 3) := by decide +kernel
theorem dL_least_225 : decode cL_least 225 = .ok (.iconst 0, 1) := by decide +kernel
theorem dL_least_226 : decode cL_least 226 = .ok (.ireturn, 1) := by decide +kernel
