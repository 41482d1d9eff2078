/-! p29: the law's instructions. -/
theorem dL_refuses_231 : decode cL_refuses 231 = .ok (.aload_n 0, 1) := by decide +kernel
theorem dL_refuses_232 : decode cL_refuses 232 = .ok (.iconst 5, 1) := by decide +kernel
theorem dL_refuses_233 : decode cL_refuses 233 = .ok (.iload 4, 2) := by decide +kernel
theorem dL_refuses_235 : decode cL_refuses 235 = .ok (.bipush 99, 2) := by decide +kernel
theorem dL_refuses_237 : decode cL_refuses 237 = .ok (.iconst 0, 1) := by decide +kernel
theorem dL_refuses_238 : decode cL_refuses 238 = .ok (.invokestatic 164, 3) := by decide +kernel
theorem dL_refuses_241 : decode cL_refuses 241 = .ok (.ldc 40, 2) := by decide +kernel
theorem dL_refuses_243 : decode cL_refuses 243 = .ok (.if_icmp .ne 512, 3) := by decide +kernel
theorem dL_refuses_246 : decode cL_refuses 246 = .ok (.aload_n 0, 1) := by decide +kernel
theorem dL_refuses_247 : decode cL_refuses 247 = .ok (.iconst 5, 1) := by decide +kernel
theorem dL_refuses_248 : decode cL_refuses 248 = .ok (.iconst 0, 1) := by decide +kernel
theorem dL_refuses_249 : decode cL_refuses 249 = .ok (.iconst 5, 1) := by decide +kernel
theorem dL_refuses_250 : decode cL_refuses 250 = .ok (.iload_n 1, 1) := by decide +kernel
theorem dL_refuses_251 : decode cL_refuses 251 = .ok (.bipush 9, 2) := by decide +kernel
theorem dL_refuses_253 : decode cL_refuses 253 = .ok (.irem, 1) := by decide +kernel
theorem dL_refuses_254 : decode cL_refuses 254 = .ok (.iadd, 1) := by decide +kernel
theorem dL_refuses_255 : decode cL_refuses 255 = .ok (.iconst 0, 1) := by decide +kernel
theorem dL_refuses_256 : decode cL_refuses 256 = .ok (.invokestatic 164, 3) := by decide +kernel
theorem dL_refuses_259 : decode cL_refuses 259 = .ok (.ldc 15, 2) := by decide +kernel
theorem dL_refuses_261 : decode cL_refuses 261 = .ok (.if_icmp .ne 494, 3) := by decide +kernel
theorem dL_refuses_264 : decode cL_refuses 264 = .ok (.aload_n 0, 1) := by decide +kernel
theorem dL_refuses_265 : decode cL_refuses 265 = .ok (.bipush 6, 2) := by decide +kernel
theorem dL_refuses_267 : decode cL_refuses 267 = .ok (.iload 5, 2) := by decide +kernel
theorem dL_refuses_269 : decode cL_refuses 269 = .ok (.iconst 0, 1) := by decide +kernel
theorem dL_refuses_270 : decode cL_refuses 270 = .ok (.iconst 0, 1) := by decide +kernel
theorem dL_refuses_271 : decode cL_refuses 271 = .ok (.invokestatic 164, 3) := by decide +kernel
theorem dL_refuses_274 : decode cL_refuses 274 = .ok (.ldc 40, 2) := by decide +kernel
theorem dL_refuses_276 : decode cL_refuses 276 = .ok (.if_icmp .ne 479, 3) := by decide +kernel
theorem dL_refuses_279 : decode cL_refuses 279 = .ok (.aload_n 0, 1) := by decide +kernel
theorem dL_refuses_280 : decode cL_refuses 280 = .ok (.bipush 7, 2) := by decide +kernel
theorem dL_refuses_282 : decode cL_refuses 282 = .ok (.iconst 2, 1) := by decide +kernel
theorem dL_refuses_283 : decode cL_refuses 283 = .ok (.iload_n 1, 1) := by decide +kernel
theorem dL_refuses_284 : decode cL_refuses 284 = .ok (.bipush 9, 2) := by decide +kernel
theorem dL_refuses_286 : decode cL_refuses 286 = .ok (.irem, 1) := by decide +kernel
theorem dL_refuses_287 : decode cL_refuses 287 = .ok (.iadd, 1) := by decide +kernel
theorem dL_refuses_288 : decode cL_refuses 288 = .ok (.iconst 0, 1) := by decide +kernel
theorem dL_refuses_289 : decode cL_refuses 289 = .ok (.iconst 0, 1) := by decide +kernel
theorem dL_refuses_290 : decode cL_refuses 290 = .ok (.invokestatic 164, 3) := by decide +kernel
theorem dL_refuses_293 : decode cL_refuses 293 = .ok (.ldc 15, 2) := by decide +kernel
theorem dL_refuses_295 : decode cL_refuses 295 = .ok (.if_icmp .ne 460, 3) := by decide +kernel
theorem dL_refuses_298 : decode cL_refuses 298 = .ok (.aload_n 0, 1) := by decide +kernel
theorem dL_refuses_299 : decode cL_refuses 299 = .ok (.bipush 8, 2) := by decide +kernel
theorem dL_refuses_301 : decode cL_refuses 301 = .ok (.iconst 3, 1) := by decide +kernel
theorem dL_refuses_302 : decode cL_refuses 302 = .ok (.iload_n 1, 1) := by decide +kernel
theorem dL_refuses_303 : decode cL_refuses 303 = .ok (.bipush 9, 2) := by decide +kernel
theorem dL_refuses_305 : decode cL_refuses 305 = .ok (.irem, 1) := by decide +kernel
theorem dL_refuses_306 : decode cL_refuses 306 = .ok (.iadd, 1) := by decide +kernel
theorem dL_refuses_307 : decode cL_refuses 307 = .ok (.iconst 0, 1) := by decide +kernel
theorem dL_refuses_308 : decode cL_refuses 308 = .ok (.iconst 0, 1) := by decide +kernel
theorem dL_refuses_309 : decode cL_refuses 309 = .ok (.invokestatic 164, 3) := by decide +kernel
