/-! p29: the law's instructions. -/
theorem dL_holds_363 : decode cL_holds 363 = .ok (.iconst 0, 1) := by decide +kernel
theorem dL_holds_364 : decode cL_holds 364 = .ok (.istore 13, 2) := by decide +kernel
theorem dL_holds_366 : decode cL_holds 366 = .ok (.iconst 0, 1) := by decide +kernel
theorem dL_holds_367 : decode cL_holds 367 = .ok (.istore 14, 2) := by decide +kernel
theorem dL_holds_369 : decode cL_holds 369 = .ok (.aload_n 0, 1) := by decide +kernel
theorem dL_holds_370 : decode cL_holds 370 = .ok (.bipush 6, 2) := by decide +kernel
theorem dL_holds_372 : decode cL_holds 372 = .ok (.iload 4, 2) := by decide +kernel
theorem dL_holds_374 : decode cL_holds 374 = .ok (.iconst 0, 1) := by decide +kernel
theorem dL_holds_375 : decode cL_holds 375 = .ok (.iconst 0, 1) := by decide +kernel
theorem dL_holds_376 : decode cL_holds 376 = .ok (.invokestatic 164, 3) := by decide +kernel
theorem dL_holds_379 : decode cL_holds 379 = .ok (.istore 15, 2) := by decide +kernel
theorem dL_holds_381 : decode cL_holds 381 = .ok (.iconst 0, 1) := by decide +kernel
theorem dL_holds_382 : decode cL_holds 382 = .ok (.istore 16, 2) := by decide +kernel
theorem dL_holds_384 : decode cL_holds 384 = .ok (.iload 16, 2) := by decide +kernel
theorem dL_holds_386 : decode cL_holds 386 = .ok (.bipush 6, 2) := by decide +kernel
theorem dL_holds_388 : decode cL_holds 388 = .ok (.if_icmp .ge 195, 3) := by decide +kernel
theorem dL_holds_391 : decode cL_holds 391 = .ok (.iload 9, 2) := by decide +kernel
theorem dL_holds_393 : decode cL_holds 393 = .ok (.ifCond .eq 190, 3) := by decide +kernel
theorem dL_holds_396 : decode cL_holds 396 = .ok (.iload 13, 2) := by decide +kernel
theorem dL_holds_398 : decode cL_holds 398 = .ok (.aload_n 0, 1) := by decide +kernel
theorem dL_holds_399 : decode cL_holds 399 = .ok (.iconst 5, 1) := by decide +kernel
theorem dL_holds_400 : decode cL_holds 400 = .ok (.iload 16, 2) := by decide +kernel
theorem dL_holds_402 : decode cL_holds 402 = .ok (.iconst 0, 1) := by decide +kernel
theorem dL_holds_403 : decode cL_holds 403 = .ok (.iconst 0, 1) := by decide +kernel
theorem dL_holds_404 : decode cL_holds 404 = .ok (.invokestatic 164, 3) := by decide +kernel
theorem dL_holds_407 : decode cL_holds 407 = .ok (.iadd, 1) := by decide +kernel
theorem dL_holds_408 : decode cL_holds 408 = .ok (.istore 13, 2) := by decide +kernel
theorem dL_holds_410 : decode cL_holds 410 = .ok (.iload 14, 2) := by decide +kernel
theorem dL_holds_412 : decode cL_holds 412 = .ok (.aload_n 0, 1) := by decide +kernel
theorem dL_holds_413 : decode cL_holds 413 = .ok (.iconst 5, 1) := by decide +kernel
theorem dL_holds_414 : decode cL_holds 414 = .ok (.iload 16, 2) := by decide +kernel
theorem dL_holds_416 : decode cL_holds 416 = .ok (.iconst 1, 1) := by decide +kernel
theorem dL_holds_417 : decode cL_holds 417 = .ok (.iconst 0, 1) := by decide +kernel
theorem dL_holds_418 : decode cL_holds 418 = .ok (.invokestatic 164, 3) := by decide +kernel
theorem dL_holds_421 : decode cL_holds 421 = .ok (.iadd, 1) := by decide +kernel
theorem dL_holds_422 : decode cL_holds 422 = .ok (.istore 14, 2) := by decide +kernel
theorem dL_holds_424 : decode cL_holds 424 = .ok (.iload 11, 2) := by decide +kernel
theorem dL_holds_426 : decode cL_holds 426 = .ok (.aload_n 0, 1) := by decide +kernel
theorem dL_holds_427 : decode cL_holds 427 = .ok (.iconst 5, 1) := by decide +kernel
theorem dL_holds_428 : decode cL_holds 428 = .ok (.iload 16, 2) := by decide +kernel
theorem dL_holds_430 : decode cL_holds 430 = .ok (.iconst 3, 1) := by decide +kernel
theorem dL_holds_431 : decode cL_holds 431 = .ok (.iconst 0, 1) := by decide +kernel
theorem dL_holds_432 : decode cL_holds 432 = .ok (.invokestatic 164, 3) := by decide +kernel
theorem dL_holds_435 : decode cL_holds 435 = .ok (.iadd, 1) := by decide +kernel
theorem dL_holds_436 : decode cL_holds 436 = .ok (.istore 11, 2) := by decide +kernel
theorem dL_holds_438 : decode cL_holds 438 = .ok (.iload 12, 2) := by decide +kernel
theorem dL_holds_440 : decode cL_holds 440 = .ok (.aload_n 0, 1) := by decide +kernel
theorem dL_holds_441 : decode cL_holds 441 = .ok (.iconst 5, 1) := by decide +kernel
theorem dL_holds_442 : decode cL_holds 442 = .ok (.iload 16, 2) := by decide +kernel
theorem dL_holds_444 : decode cL_holds 444 = .ok (.iconst 4, 1) := by decide +kernel
