/-! p29: the law's instructions. -/
theorem dL_holds_262 : decode cL_holds 262 = .ok (.iinc 10 1, 3) := by decide +kernel
theorem dL_holds_265 : decode cL_holds 265 = .ok (.goto (-155), 3) := by decide +kernel
theorem dL_holds_268 : decode cL_holds 268 = .ok (.iconst 0, 1) := by decide +kernel
theorem dL_holds_269 : decode cL_holds 269 = .ok (.istore 10, 2) := by decide +kernel
theorem dL_holds_271 : decode cL_holds 271 = .ok (.iconst 0, 1) := by decide +kernel
theorem dL_holds_272 : decode cL_holds 272 = .ok (.istore 11, 2) := by decide +kernel
theorem dL_holds_274 : decode cL_holds 274 = .ok (.iload 11, 2) := by decide +kernel
theorem dL_holds_276 : decode cL_holds 276 = .ok (.bipush 24, 2) := by decide +kernel
theorem dL_holds_278 : decode cL_holds 278 = .ok (.if_icmp .ge 79, 3) := by decide +kernel
theorem dL_holds_281 : decode cL_holds 281 = .ok (.iload 9, 2) := by decide +kernel
theorem dL_holds_283 : decode cL_holds 283 = .ok (.ifCond .eq 74, 3) := by decide +kernel
theorem dL_holds_286 : decode cL_holds 286 = .ok (.aload_n 0, 1) := by decide +kernel
theorem dL_holds_287 : decode cL_holds 287 = .ok (.bipush 6, 2) := by decide +kernel
theorem dL_holds_289 : decode cL_holds 289 = .ok (.iload 11, 2) := by decide +kernel
theorem dL_holds_291 : decode cL_holds 291 = .ok (.iconst 0, 1) := by decide +kernel
theorem dL_holds_292 : decode cL_holds 292 = .ok (.iconst 0, 1) := by decide +kernel
theorem dL_holds_293 : decode cL_holds 293 = .ok (.invokestatic 164, 3) := by decide +kernel
theorem dL_holds_296 : decode cL_holds 296 = .ok (.invokestatic 181, 3) := by decide +kernel
theorem dL_holds_299 : decode cL_holds 299 = .ok (.istore 12, 2) := by decide +kernel
theorem dL_holds_301 : decode cL_holds 301 = .ok (.aload_n 0, 1) := by decide +kernel
theorem dL_holds_302 : decode cL_holds 302 = .ok (.bipush 6, 2) := by decide +kernel
theorem dL_holds_304 : decode cL_holds 304 = .ok (.iload 8, 2) := by decide +kernel
theorem dL_holds_306 : decode cL_holds 306 = .ok (.iconst 0, 1) := by decide +kernel
theorem dL_holds_307 : decode cL_holds 307 = .ok (.iconst 0, 1) := by decide +kernel
theorem dL_holds_308 : decode cL_holds 308 = .ok (.invokestatic 164, 3) := by decide +kernel
theorem dL_holds_311 : decode cL_holds 311 = .ok (.invokestatic 181, 3) := by decide +kernel
theorem dL_holds_314 : decode cL_holds 314 = .ok (.istore 13, 2) := by decide +kernel
theorem dL_holds_316 : decode cL_holds 316 = .ok (.iload 10, 2) := by decide +kernel
theorem dL_holds_318 : decode cL_holds 318 = .ok (.iload 12, 2) := by decide +kernel
theorem dL_holds_320 : decode cL_holds 320 = .ok (.iadd, 1) := by decide +kernel
theorem dL_holds_321 : decode cL_holds 321 = .ok (.istore 10, 2) := by decide +kernel
theorem dL_holds_323 : decode cL_holds 323 = .ok (.iload 12, 2) := by decide +kernel
theorem dL_holds_325 : decode cL_holds 325 = .ok (.iload 13, 2) := by decide +kernel
theorem dL_holds_327 : decode cL_holds 327 = .ok (.if_icmp .lt 17, 3) := by decide +kernel
theorem dL_holds_330 : decode cL_holds 330 = .ok (.iload 12, 2) := by decide +kernel
theorem dL_holds_332 : decode cL_holds 332 = .ok (.iload 13, 2) := by decide +kernel
theorem dL_holds_334 : decode cL_holds 334 = .ok (.if_icmp .ne 14, 3) := by decide +kernel
theorem dL_holds_337 : decode cL_holds 337 = .ok (.iload 11, 2) := by decide +kernel
theorem dL_holds_339 : decode cL_holds 339 = .ok (.iload 8, 2) := by decide +kernel
theorem dL_holds_341 : decode cL_holds 341 = .ok (.if_icmp .lt 7, 3) := by decide +kernel
theorem dL_holds_344 : decode cL_holds 344 = .ok (.iconst 1, 1) := by decide +kernel
theorem dL_holds_345 : decode cL_holds 345 = .ok (.goto 4, 3) := by decide +kernel
theorem dL_holds_348 : decode cL_holds 348 = .ok (.iconst 0, 1) := by decide +kernel
theorem dL_holds_349 : decode cL_holds 349 = .ok (.istore 9, 2) := by decide +kernel
theorem dL_holds_351 : decode cL_holds 351 = .ok (.iinc 11 1, 3) := by decide +kernel
theorem dL_holds_354 : decode cL_holds 354 = .ok (.goto (-80), 3) := by decide +kernel
theorem dL_holds_357 : decode cL_holds 357 = .ok (.iconst 0, 1) := by decide +kernel
theorem dL_holds_358 : decode cL_holds 358 = .ok (.istore 11, 2) := by decide +kernel
theorem dL_holds_360 : decode cL_holds 360 = .ok (.iconst 0, 1) := by decide +kernel
theorem dL_holds_361 : decode cL_holds 361 = .ok (.istore 12, 2) := by decide +kernel
