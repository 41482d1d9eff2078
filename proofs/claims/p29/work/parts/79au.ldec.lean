/-! p29: the law's instructions. -/
theorem dL_holds_320 : decode cL_holds 320 = .ok (.iadd, 1) := by decide +kernel
theorem dL_holds_321 : decode cL_holds 321 = .ok (.istore 10, 2) := by decide +kernel
theorem dL_holds_323 : decode cL_holds 323 = .ok (.iload 12, 2) := by decide +kernel
theorem dL_holds_325 : decode cL_holds 325 = .ok (.iload 13, 2) := by decide +kernel
theorem dL_holds_327 : decode cL_holds 327 = .ok (.if_icmp .lt 17, 3) := by decide +kernel
theorem dL_holds_330 : decode cL_holds 330 = .ok (.iload 12, 2) := by decide +kernel
theorem dL_holds_332 : decode cL_holds 332 = .ok (.iload 13, 2) := by decide +kernel
theorem dL_holds_334 : decode cL_holds 334 = .ok (.if_icmp .ne 14, 3) := by decide +kernel
theorem dL_holds_337 : decode cL_holds 337 = .ok (.iload 11, 2) := by decide +kernel
theorem dL_holds_339 : decode cL_holds 339 = .ok (.iload 8, 2) := by decide +kernel
theorem dL_holds_341 : decode cL_holds 341 = .ok (.if_icmp .lt 7, 3) := by decide +kernel
theorem dL_holds_344 : decode cL_holds 344 = .ok (.iconst 1, 1) := by decide +kernel
theorem dL_holds_345 : decode cL_holds 345 = .ok (.goto 4, 3) := by decide +kernel
theorem dL_holds_348 : decode cL_holds 348 = .ok (.iconst 0, 1) := by decide +kernel
theorem dL_holds_349 : decode cL_holds 349 = .ok (.istore 9, 2) := by decide +kernel
theorem dL_holds_351 : decode cL_holds 351 = .ok (.iinc 11 1, 3) := by decide +kernel
theorem dL_holds_354 : decode cL_holds 354 = .ok (.goto (-80), 3) := by decide +kernel
theorem dL_holds_357 : decode cL_holds 357 = .ok (.iconst 0, 1) := by decide +kernel
theorem dL_holds_358 : decode cL_holds 358 = .ok (.istore 11, 2) := by decide +kernel
theorem dL_holds_360 : decode cL_holds 360 = .ok (.iconst 0, 1) := by decide +kernel
theorem dL_holds_361 : decode cL_holds 361 = .ok (.istore 12, 2) := by decide +kernel
theorem dL_holds_363 : decode cL_holds 363 = .ok (.iconst 0, 1) := by decide +kernel
theorem dL_holds_364 : decode cL_holds 364 = .ok (.istore 13, 2) := by decide +kernel
theorem dL_holds_366 : decode cL_holds 366 = .ok (.iconst 0, 1) := by decide +kernel
theorem dL_holds_367 : decode cL_holds 367 = .ok (.istore 14, 2) := by decide +kernel
theorem dL_holds_369 : decode cL_holds 369 = .ok (.aload_n 0, 1) := by decide +kernel
theorem dL_holds_370 : decode cL_holds 370 = .ok (.bipush 6, 2) := by decide +kernel
theorem dL_holds_372 : decode cL_holds 372 = .ok (.iload 4, 2) := by decide +kernel
theorem dL_holds_374 : decode cL_holds 374 = .ok (.iconst 0, 1) := by decide +kernel
theorem dL_holds_375 : decode cL_holds 375 = .ok (.iconst 0, 1) := by decide +kernel
theorem dL_holds_376 : decode cL_holds 376 = .ok (.invokestatic 164, 3) := by decide +kernel
theorem dL_holds_379 : decode cL_holds 379 = .ok (.istore 15, 2) := by decide +kernel
theorem dL_holds_381 : decode cL_holds 381 = .ok (.iconst 0, 1) := by decide +kernel
theorem dL_holds_382 : decode cL_holds 382 = .ok (.istore 16, 2) := by decide +kernel
theorem dL_holds_384 : decode cL_holds 384 = .ok (.iload 16, 2) := by decide +kernel
theorem dL_holds_386 : decode cL_holds 386 = .ok (.bipush 6, 2) := by decide +kernel
theorem dL_holds_388 : decode cL_holds 388 = .ok (.if_icmp .ge 195, 3) := by decide +kernel
theorem dL_holds_391 : decode cL_holds 391 = .ok (.iload 9, 2) := by decide +kernel
theorem dL_holds_393 : decode cL_holds 393 = .ok (.ifCond .eq 190, 3) := by decide +kernel
theorem dL_holds_396 : decode cL_holds 396 = .ok (.iload 13, 2) := by decide +kernel
theorem dL_holds_398 : decode cL_holds 398 = .ok (.aload_n 0, 1) := by decide +kernel
theorem dL_holds_399 : decode cL_holds 399 = .ok (.iconst 5, 1) := by decide +kernel
theorem dL_holds_400 : decode cL_holds 400 = .ok (.iload 16, 2) := by decide +kernel
theorem dL_holds_402 : decode cL_holds 402 = .ok (.iconst 0, 1) := by decide +kernel
theorem dL_holds_403 : decode cL_holds 403 = .ok (.iconst 0, 1) := by decide +kernel
theorem dL_holds_404 : decode cL_holds 404 = .ok (.invokestatic 164, 3) := by decide +kernel
theorem dL_holds_407 : decode cL_holds 407 = .ok (.iadd, 1) := by decide +kernel
theorem dL_holds_408 : decode cL_holds 408 = .ok (.istore 13, 2) := by decide +kernel
theorem dL_holds_410 : decode cL_holds 410 = .ok (.iload 14, 2) := by decide +kernel
theorem dL_holds_412 : decode cL_holds 412 = .ok (.aload_n 0, 1) := by decide +kernel
