/-! p29: the law's instructions. -/
theorem dL_holds_225 : decode cL_holds 225 = .ok (.bipush 6, 2) := by decide +kernel
theorem dL_holds_227 : decode cL_holds 227 = .ok (.iload 12, 2) := by decide +kernel
theorem dL_holds_229 : decode cL_holds 229 = .ok (.iload 15, 2) := by decide +kernel
theorem dL_holds_231 : decode cL_holds 231 = .ok (.iadd, 1) := by decide +kernel
theorem dL_holds_232 : decode cL_holds 232 = .ok (.bipush 24, 2) := by decide +kernel
theorem dL_holds_234 : decode cL_holds 234 = .ok (.irem, 1) := by decide +kernel
theorem dL_holds_235 : decode cL_holds 235 = .ok (.iconst 0, 1) := by decide +kernel
theorem dL_holds_236 : decode cL_holds 236 = .ok (.iconst 0, 1) := by decide +kernel
theorem dL_holds_237 : decode cL_holds 237 = .ok (.invokestatic 164, 3) := by decide +kernel
theorem dL_holds_240 : decode cL_holds 240 = .ok (.iload 11, 2) := by decide +kernel
theorem dL_holds_242 : decode cL_holds 242 = .ok (.ishr, 1) := by decide +kernel
theorem dL_holds_243 : decode cL_holds 243 = .ok (.iconst 1, 1) := by decide +kernel
theorem dL_holds_244 : decode cL_holds 244 = .ok (.iand, 1) := by decide +kernel
theorem dL_holds_245 : decode cL_holds 245 = .ok (.iconst 1, 1) := by decide +kernel
theorem dL_holds_246 : decode cL_holds 246 = .ok (.if_icmp .ne 7, 3) := by decide +kernel
theorem dL_holds_249 : decode cL_holds 249 = .ok (.iconst 1, 1) := by decide +kernel
theorem dL_holds_250 : decode cL_holds 250 = .ok (.goto 4, 3) := by decide +kernel
theorem dL_holds_253 : decode cL_holds 253 = .ok (.iconst 0, 1) := by decide +kernel
theorem dL_holds_254 : decode cL_holds 254 = .ok (.istore 9, 2) := by decide +kernel
theorem dL_holds_256 : decode cL_holds 256 = .ok (.iinc 15 1, 3) := by decide +kernel
theorem dL_holds_259 : decode cL_holds 259 = .ok (.goto (-47), 3) := by decide +kernel
theorem dL_holds_262 : decode cL_holds 262 = .ok (.iinc 10 1, 3) := by decide +kernel
theorem dL_holds_265 : decode cL_holds 265 = .ok (.goto (-155), 3) := by decide +kernel
theorem dL_holds_268 : decode cL_holds 268 = .ok (.iconst 0, 1) := by decide +kernel
theorem dL_holds_269 : decode cL_holds 269 = .ok (.istore 10, 2) := by decide +kernel
theorem dL_holds_271 : decode cL_holds 271 = .ok (.iconst 0, 1) := by decide +kernel
theorem dL_holds_272 : decode cL_holds 272 = .ok (.istore 11, 2) := by decide +kernel
theorem dL_holds_274 : decode cL_holds 274 = .ok (.iload 11, 2) := by decide +kernel
theorem dL_holds_276 : decode cL_holds 276 = .ok (.bipush 24, 2) := by decide +kernel
theorem dL_holds_278 : decode cL_holds 278 = .ok (.if_icmp .ge 79, 3) := by decide +kernel
theorem dL_holds_281 : decode cL_holds 281 = .ok (.iload 9, 2) := by decide +kernel
theorem dL_holds_283 : decode cL_holds 283 = .ok (.ifCond .eq 74, 3) := by decide +kernel
theorem dL_holds_286 : decode cL_holds 286 = .ok (.aload_n 0, 1) := by decide +kernel
theorem dL_holds_287 : decode cL_holds 287 = .ok (.bipush 6, 2) := by decide +kernel
theorem dL_holds_289 : decode cL_holds 289 = .ok (.iload 11, 2) := by decide +kernel
theorem dL_holds_291 : decode cL_holds 291 = .ok (.iconst 0, 1) := by decide +kernel
theorem dL_holds_292 : decode cL_holds 292 = .ok (.iconst 0, 1) := by decide +kernel
theorem dL_holds_293 : decode cL_holds 293 = .ok (.invokestatic 164, 3) := by decide +kernel
theorem dL_holds_296 : decode cL_holds 296 = .ok (.invokestatic 181, 3) := by decide +kernel
theorem dL_holds_299 : decode cL_holds 299 = .ok (.istore 12, 2) := by decide +kernel
theorem dL_holds_301 : decode cL_holds 301 = .ok (.aload_n 0, 1) := by decide +kernel
theorem dL_holds_302 : decode cL_holds 302 = .ok (.bipush 6, 2) := by decide +kernel
theorem dL_holds_304 : decode cL_holds 304 = .ok (.iload 8, 2) := by decide +kernel
theorem dL_holds_306 : decode cL_holds 306 = .ok (.iconst 0, 1) := by decide +kernel
theorem dL_holds_307 : decode cL_holds 307 = .ok (.iconst 0, 1) := by decide +kernel
theorem dL_holds_308 : decode cL_holds 308 = .ok (.invokestatic 164, 3) := by decide +kernel
theorem dL_holds_311 : decode cL_holds 311 = .ok (.invokestatic 181, 3) := by decide +kernel
theorem dL_holds_314 : decode cL_holds 314 = .ok (.istore 13, 2) := by decide +kernel
theorem dL_holds_316 : decode cL_holds 316 = .ok (.iload 10, 2) := by decide +kernel
theorem dL_holds_318 : decode cL_holds 318 = .ok (.iload 12, 2) := by decide +kernel
