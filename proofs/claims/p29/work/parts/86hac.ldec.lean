/-! p29: the law's instructions. -/
theorem dL_holds_165 : decode cL_holds 165 = .ok (.iload 6, 2) := by decide +kernel
theorem dL_holds_167 : decode cL_holds 167 = .ok (.iload 13, 2) := by decide +kernel
theorem dL_holds_169 : decode cL_holds 169 = .ok (.iadd, 1) := by decide +kernel
theorem dL_holds_170 : decode cL_holds 170 = .ok (.istore 6, 2) := by decide +kernel
theorem dL_holds_172 : decode cL_holds 172 = .ok (.iload 13, 2) := by decide +kernel
theorem dL_holds_174 : decode cL_holds 174 = .ok (.ifCond .le 28, 3) := by decide +kernel
theorem dL_holds_177 : decode cL_holds 177 = .ok (.iload 13, 2) := by decide +kernel
theorem dL_holds_179 : decode cL_holds 179 = .ok (.bipush 6, 2) := by decide +kernel
theorem dL_holds_181 : decode cL_holds 181 = .ok (.if_icmp .gt 21, 3) := by decide +kernel
theorem dL_holds_184 : decode cL_holds 184 = .ok (.iload 14, 2) := by decide +kernel
theorem dL_holds_186 : decode cL_holds 186 = .ok (.iload 7, 2) := by decide +kernel
theorem dL_holds_188 : decode cL_holds 188 = .ok (.if_icmp .le 14, 3) := by decide +kernel
theorem dL_holds_191 : decode cL_holds 191 = .ok (.iload 14, 2) := by decide +kernel
theorem dL_holds_193 : decode cL_holds 193 = .ok (.iload 5, 2) := by decide +kernel
theorem dL_holds_195 : decode cL_holds 195 = .ok (.if_icmp .gt 7, 3) := by decide +kernel
theorem dL_holds_198 : decode cL_holds 198 = .ok (.iconst 1, 1) := by decide +kernel
theorem dL_holds_199 : decode cL_holds 199 = .ok (.goto 4, 3) := by decide +kernel
theorem dL_holds_202 : decode cL_holds 202 = .ok (.iconst 0, 1) := by decide +kernel
theorem dL_holds_203 : decode cL_holds 203 = .ok (.istore 9, 2) := by decide +kernel
theorem dL_holds_205 : decode cL_holds 205 = .ok (.iload 14, 2) := by decide +kernel
theorem dL_holds_207 : decode cL_holds 207 = .ok (.istore 7, 2) := by decide +kernel
theorem dL_holds_209 : decode cL_holds 209 = .ok (.iconst 0, 1) := by decide +kernel
theorem dL_holds_210 : decode cL_holds 210 = .ok (.istore 15, 2) := by decide +kernel
theorem dL_holds_212 : decode cL_holds 212 = .ok (.iload 15, 2) := by decide +kernel
theorem dL_holds_214 : decode cL_holds 214 = .ok (.iload 13, 2) := by decide +kernel
theorem dL_holds_216 : decode cL_holds 216 = .ok (.if_icmp .ge 46, 3) := by decide +kernel
theorem dL_holds_219 : decode cL_holds 219 = .ok (.iload 9, 2) := by decide +kernel
theorem dL_holds_221 : decode cL_holds 221 = .ok (.ifCond .eq 41, 3) := by decide +kernel
theorem dL_holds_224 : decode cL_holds 224 = .ok (.aload_n 0, 1) := by decide +kernel
theorem dL_holds_225 : decode cL_holds 225 = .ok (.bipush 6, 2) := by decide +kernel
theorem dL_holds_227 : decode cL_holds 227 = .ok (.iload 12, 2) := by decide +kernel
theorem dL_holds_229 : decode cL_holds 229 = .ok (.iload 15, 2) := by decide +kernel
theorem dL_holds_231 : decode cL_holds 231 = .ok (.iadd, 1) := by decide +kernel
theorem dL_holds_232 : decode cL_holds 232 = .ok (.bipush 24, 2) := by decide +kernel
theorem dL_holds_234 : decode cL_holds 234 = .ok (.irem, 1) := by decide +kernel
theorem dL_holds_235 : decode cL_holds 235 = .ok (.iconst 0, 1) := by decide +kernel
theorem dL_holds_236 : decode cL_holds 236 = .ok (.iconst 0, 1) := by decide +kernel
theorem dL_holds_237 : decode cL_holds 237 = .ok (.invokestatic 164, 3) := by decide +kernel
theorem dL_holds_240 : decode cL_holds 240 = .ok (.iload 11, 2) := by decide +kernel
theorem dL_holds_242 : decode cL_holds 242 = .ok (.ishr, 1) := by decide +kernel
theorem dL_holds_243 : decode cL_holds 243 = .ok (.iconst 1, 1) := by decide +kernel
theorem dL_holds_244 : decode cL_holds 244 = .ok (.iand, 1) := by decide +kernel
theorem dL_holds_245 : decode cL_holds 245 = .ok (.iconst 1, 1) := by decide +kernel
theorem dL_holds_246 : decode cL_holds 246 = .ok (.if_icmp .ne 7, 3) := by decide +kernel
theorem dL_holds_249 : decode cL_holds 249 = .ok (.iconst 1, 1) := by decide +kernel
theorem dL_holds_250 : decode cL_holds 250 = .ok (.goto 4, 3) := by decide +kernel
theorem dL_holds_253 : decode cL_holds 253 = .ok (.iconst 0, 1) := by decide +kernel
theorem dL_holds_254 : decode cL_holds 254 = .ok (.istore 9, 2) := by decide +kernel
theorem dL_holds_256 : decode cL_holds 256 = .ok (.iinc 15 1, 3) := by decide +kernel
theorem dL_holds_259 : decode cL_holds 259 = .ok (.goto (-47), 3) := by decide +kernel
