/-! p29: the law's instructions. -/
theorem dL_goes_265 : decode cL_goes 265 = .ok (.goto (-50), 3) := by decide +kernel
theorem dL_goes_268 : decode cL_goes 268 = .ok (.aload_n 0, 1) := by decide +kernel
theorem dL_goes_269 : decode cL_goes 269 = .ok (.bipush 15, 2) := by decide +kernel
theorem dL_goes_271 : decode cL_goes 271 = .ok (.iconst 0, 1) := by decide +kernel
theorem dL_goes_272 : decode cL_goes 272 = .ok (.iconst 0, 1) := by decide +kernel
theorem dL_goes_273 : decode cL_goes 273 = .ok (.iconst 0, 1) := by decide +kernel
theorem dL_goes_274 : decode cL_goes 274 = .ok (.invokestatic 164, 3) := by decide +kernel
theorem dL_goes_277 : decode cL_goes 277 = .ok (.istore 10, 2) := by decide +kernel
theorem dL_goes_279 : decode cL_goes 279 = .ok (.iload 10, 2) := by decide +kernel
theorem dL_goes_281 : decode cL_goes 281 = .ok (.iconst (-1), 1) := by decide +kernel
theorem dL_goes_282 : decode cL_goes 282 = .ok (.if_icmp .ne 8, 3) := by decide +kernel
theorem dL_goes_285 : decode cL_goes 285 = .ok (.bipush 100, 2) := by decide +kernel
theorem dL_goes_287 : decode cL_goes 287 = .ok (.goto 5, 3) := by decide +kernel
theorem dL_goes_290 : decode cL_goes 290 = .ok (.iload 10, 2) := by decide +kernel
theorem dL_goes_292 : decode cL_goes 292 = .ok (.istore 11, 2) := by decide +kernel
theorem dL_goes_294 : decode cL_goes 294 = .ok (.aload_n 0, 1) := by decide +kernel
theorem dL_goes_295 : decode cL_goes 295 = .ok (.iconst 2, 1) := by decide +kernel
theorem dL_goes_296 : decode cL_goes 296 = .ok (.iconst 5, 1) := by decide +kernel
theorem dL_goes_297 : decode cL_goes 297 = .ok (.iconst 0, 1) := by decide +kernel
theorem dL_goes_298 : decode cL_goes 298 = .ok (.iconst 0, 1) := by decide +kernel
theorem dL_goes_299 : decode cL_goes 299 = .ok (.invokestatic 164, 3) := by decide +kernel
theorem dL_goes_302 : decode cL_goes 302 = .ok (.aload_n 0, 1) := by decide +kernel
theorem dL_goes_303 : decode cL_goes 303 = .ok (.iconst 2, 1) := by decide +kernel
theorem dL_goes_304 : decode cL_goes 304 = .ok (.bipush 11, 2) := by decide +kernel
theorem dL_goes_306 : decode cL_goes 306 = .ok (.iconst 0, 1) := by decide +kernel
theorem dL_goes_307 : decode cL_goes 307 = .ok (.iconst 0, 1) := by decide +kernel
theorem dL_goes_308 : decode cL_goes 308 = .ok (.invokestatic 164, 3) := by decide +kernel
theorem dL_goes_311 : decode cL_goes 311 = .ok (.iadd, 1) := by decide +kernel
theorem dL_goes_312 : decode cL_goes 312 = .ok (.istore 12, 2) := by decide +kernel
theorem dL_goes_314 : decode cL_goes 314 = .ok (.iload 8, 2) := by decide +kernel
theorem dL_goes_316 : decode cL_goes 316 = .ok (.ifCond .eq 92, 3) := by decide +kernel
theorem dL_goes_319 : decode cL_goes 319 = .ok (.aload_n 0, 1) := by decide +kernel
theorem dL_goes_320 : decode cL_goes 320 = .ok (.aload_n 1, 1) := by decide +kernel
theorem dL_goes_321 : decode cL_goes 321 = .ok (.iload 11, 2) := by decide +kernel
theorem dL_goes_323 : decode cL_goes 323 = .ok (.invokestatic 218, 3) := by decide +kernel
theorem dL_goes_326 : decode cL_goes 326 = .ok (.ifCond .eq 82, 3) := by decide +kernel
theorem dL_goes_329 : decode cL_goes 329 = .ok (.aload_n 0, 1) := by decide +kernel
theorem dL_goes_330 : decode cL_goes 330 = .ok (.iconst 2, 1) := by decide +kernel
theorem dL_goes_331 : decode cL_goes 331 = .ok (.iconst 1, 1) := by decide +kernel
theorem dL_goes_332 : decode cL_goes 332 = .ok (.iconst 0, 1) := by decide +kernel
theorem dL_goes_333 : decode cL_goes 333 = .ok (.iconst 0, 1) := by decide +kernel
theorem dL_goes_334 : decode cL_goes 334 = .ok (.invokestatic 164, 3) := by decide +kernel
theorem dL_goes_337 : decode cL_goes 337 = .ok (.ifCond .ne 7, 3) := by decide +kernel
theorem dL_goes_340 : decode cL_goes 340 = .ok (.iconst 1, 1) := by decide +kernel
theorem dL_goes_341 : decode cL_goes 341 = .ok (.goto 4, 3) := by decide +kernel
theorem dL_goes_344 : decode cL_goes 344 = .ok (.iconst 0, 1) := by decide +kernel
theorem dL_goes_345 : decode cL_goes 345 = .ok (.iload 10, 2) := by decide +kernel
theorem dL_goes_347 : decode cL_goes 347 = .ok (.iconst (-1), 1) := by decide +kernel
theorem dL_goes_348 : decode cL_goes 348 = .ok (.if_icmp .eq 7, 3) := by decide +kernel
theorem dL_goes_351 : decode cL_goes 351 = .ok (.iconst 1, 1) := by decide +kernel
