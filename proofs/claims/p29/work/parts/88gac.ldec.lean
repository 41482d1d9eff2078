/-! p29: the law's instructions. -/
theorem dL_goes_171 : decode cL_goes 171 = .ok (.aload_n 1, 1) := by decide +kernel
theorem dL_goes_172 : decode cL_goes 172 = .ok (.iload 6, 2) := by decide +kernel
theorem dL_goes_174 : decode cL_goes 174 = .ok (.iconst 1, 1) := by decide +kernel
theorem dL_goes_175 : decode cL_goes 175 = .ok (.isub, 1) := by decide +kernel
theorem dL_goes_176 : decode cL_goes 176 = .ok (.invokestatic 221, 3) := by decide +kernel
theorem dL_goes_179 : decode cL_goes 179 = .ok (.ifCond .eq 7, 3) := by decide +kernel
theorem dL_goes_182 : decode cL_goes 182 = .ok (.iconst 1, 1) := by decide +kernel
theorem dL_goes_183 : decode cL_goes 183 = .ok (.goto 4, 3) := by decide +kernel
theorem dL_goes_186 : decode cL_goes 186 = .ok (.iconst 0, 1) := by decide +kernel
theorem dL_goes_187 : decode cL_goes 187 = .ok (.istore 8, 2) := by decide +kernel
theorem dL_goes_189 : decode cL_goes 189 = .ok (.aload_n 0, 1) := by decide +kernel
theorem dL_goes_190 : decode cL_goes 190 = .ok (.iconst 2, 1) := by decide +kernel
theorem dL_goes_191 : decode cL_goes 191 = .ok (.iconst 1, 1) := by decide +kernel
theorem dL_goes_192 : decode cL_goes 192 = .ok (.iconst 0, 1) := by decide +kernel
theorem dL_goes_193 : decode cL_goes 193 = .ok (.iconst 0, 1) := by decide +kernel
theorem dL_goes_194 : decode cL_goes 194 = .ok (.invokestatic 164, 3) := by decide +kernel
theorem dL_goes_197 : decode cL_goes 197 = .ok (.istore 9, 2) := by decide +kernel
theorem dL_goes_199 : decode cL_goes 199 = .ok (.iload 9, 2) := by decide +kernel
theorem dL_goes_201 : decode cL_goes 201 = .ok (.ifCond .le 323, 3) := by decide +kernel
theorem dL_goes_204 : decode cL_goes 204 = .ok (.iload 8, 2) := by decide +kernel
theorem dL_goes_206 : decode cL_goes 206 = .ok (.ifCond .eq 318, 3) := by decide +kernel
theorem dL_goes_209 : decode cL_goes 209 = .ok (.iload 9, 2) := by decide +kernel
theorem dL_goes_211 : decode cL_goes 211 = .ok (.iconst 1, 1) := by decide +kernel
theorem dL_goes_212 : decode cL_goes 212 = .ok (.isub, 1) := by decide +kernel
theorem dL_goes_213 : decode cL_goes 213 = .ok (.istore 10, 2) := by decide +kernel
theorem dL_goes_215 : decode cL_goes 215 = .ok (.iload 10, 2) := by decide +kernel
theorem dL_goes_217 : decode cL_goes 217 = .ok (.ifCond .le 51, 3) := by decide +kernel
theorem dL_goes_220 : decode cL_goes 220 = .ok (.iload 8, 2) := by decide +kernel
theorem dL_goes_222 : decode cL_goes 222 = .ok (.ifCond .eq 46, 3) := by decide +kernel
theorem dL_goes_225 : decode cL_goes 225 = .ok (.aload_n 0, 1) := by decide +kernel
theorem dL_goes_226 : decode cL_goes 226 = .ok (.bipush 11, 2) := by decide +kernel
theorem dL_goes_228 : decode cL_goes 228 = .ok (.iload 10, 2) := by decide +kernel
theorem dL_goes_230 : decode cL_goes 230 = .ok (.iconst 0, 1) := by decide +kernel
theorem dL_goes_231 : decode cL_goes 231 = .ok (.iconst 0, 1) := by decide +kernel
theorem dL_goes_232 : decode cL_goes 232 = .ok (.invokestatic 164, 3) := by decide +kernel
theorem dL_goes_235 : decode cL_goes 235 = .ok (.iload 10, 2) := by decide +kernel
theorem dL_goes_237 : decode cL_goes 237 = .ok (.if_icmp .ne 22, 3) := by decide +kernel
theorem dL_goes_240 : decode cL_goes 240 = .ok (.aload_n 1, 1) := by decide +kernel
theorem dL_goes_241 : decode cL_goes 241 = .ok (.bipush 11, 2) := by decide +kernel
theorem dL_goes_243 : decode cL_goes 243 = .ok (.iload 10, 2) := by decide +kernel
theorem dL_goes_245 : decode cL_goes 245 = .ok (.iconst 0, 1) := by decide +kernel
theorem dL_goes_246 : decode cL_goes 246 = .ok (.iconst 0, 1) := by decide +kernel
theorem dL_goes_247 : decode cL_goes 247 = .ok (.invokestatic 164, 3) := by decide +kernel
theorem dL_goes_250 : decode cL_goes 250 = .ok (.iload 10, 2) := by decide +kernel
theorem dL_goes_252 : decode cL_goes 252 = .ok (.if_icmp .ne 7, 3) := by decide +kernel
theorem dL_goes_255 : decode cL_goes 255 = .ok (.iconst 1, 1) := by decide +kernel
theorem dL_goes_256 : decode cL_goes 256 = .ok (.goto 4, 3) := by decide +kernel
theorem dL_goes_259 : decode cL_goes 259 = .ok (.iconst 0, 1) := by decide +kernel
theorem dL_goes_260 : decode cL_goes 260 = .ok (.istore 8, 2) := by decide +kernel
theorem dL_goes_262 : decode cL_goes 262 = .ok (.iinc 10 (-1), 3) := by decide +kernel
