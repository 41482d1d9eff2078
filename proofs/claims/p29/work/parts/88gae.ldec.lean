/-! p29: the law's instructions. -/
theorem dL_goes_352 : decode cL_goes 352 = .ok (.goto 4, 3) := by decide +kernel
theorem dL_goes_355 : decode cL_goes 355 = .ok (.iconst 0, 1) := by decide +kernel
theorem dL_goes_356 : decode cL_goes 356 = .ok (.if_icmp .ne 52, 3) := by decide +kernel
theorem dL_goes_359 : decode cL_goes 359 = .ok (.aload_n 0, 1) := by decide +kernel
theorem dL_goes_360 : decode cL_goes 360 = .ok (.iconst 2, 1) := by decide +kernel
theorem dL_goes_361 : decode cL_goes 361 = .ok (.iconst 5, 1) := by decide +kernel
theorem dL_goes_362 : decode cL_goes 362 = .ok (.iconst 0, 1) := by decide +kernel
theorem dL_goes_363 : decode cL_goes 363 = .ok (.iconst 0, 1) := by decide +kernel
theorem dL_goes_364 : decode cL_goes 364 = .ok (.invokestatic 164, 3) := by decide +kernel
theorem dL_goes_367 : decode cL_goes 367 = .ok (.aload_n 0, 1) := by decide +kernel
theorem dL_goes_368 : decode cL_goes 368 = .ok (.iconst 2, 1) := by decide +kernel
theorem dL_goes_369 : decode cL_goes 369 = .ok (.bipush 11, 2) := by decide +kernel
theorem dL_goes_371 : decode cL_goes 371 = .ok (.iconst 0, 1) := by decide +kernel
theorem dL_goes_372 : decode cL_goes 372 = .ok (.iconst 0, 1) := by decide +kernel
theorem dL_goes_373 : decode cL_goes 373 = .ok (.invokestatic 164, 3) := by decide +kernel
theorem dL_goes_376 : decode cL_goes 376 = .ok (.iadd, 1) := by decide +kernel
theorem dL_goes_377 : decode cL_goes 377 = .ok (.iload 12, 2) := by decide +kernel
theorem dL_goes_379 : decode cL_goes 379 = .ok (.iload 10, 2) := by decide +kernel
theorem dL_goes_381 : decode cL_goes 381 = .ok (.iconst (-1), 1) := by decide +kernel
theorem dL_goes_382 : decode cL_goes 382 = .ok (.if_icmp .ne 7, 3) := by decide +kernel
theorem dL_goes_385 : decode cL_goes 385 = .ok (.iconst 0, 1) := by decide +kernel
theorem dL_goes_386 : decode cL_goes 386 = .ok (.goto 4, 3) := by decide +kernel
theorem dL_goes_389 : decode cL_goes 389 = .ok (.iconst 1, 1) := by decide +kernel
theorem dL_goes_390 : decode cL_goes 390 = .ok (.iadd, 1) := by decide +kernel
theorem dL_goes_391 : decode cL_goes 391 = .ok (.if_icmp .ne 17, 3) := by decide +kernel
theorem dL_goes_394 : decode cL_goes 394 = .ok (.aload_n 0, 1) := by decide +kernel
theorem dL_goes_395 : decode cL_goes 395 = .ok (.aload_n 1, 1) := by decide +kernel
theorem dL_goes_396 : decode cL_goes 396 = .ok (.iload 11, 2) := by decide +kernel
theorem dL_goes_398 : decode cL_goes 398 = .ok (.invokestatic 221, 3) := by decide +kernel
theorem dL_goes_401 : decode cL_goes 401 = .ok (.ifCond .eq 7, 3) := by decide +kernel
theorem dL_goes_404 : decode cL_goes 404 = .ok (.iconst 1, 1) := by decide +kernel
theorem dL_goes_405 : decode cL_goes 405 = .ok (.goto 4, 3) := by decide +kernel
theorem dL_goes_408 : decode cL_goes 408 = .ok (.iconst 0, 1) := by decide +kernel
theorem dL_goes_409 : decode cL_goes 409 = .ok (.istore 8, 2) := by decide +kernel
theorem dL_goes_411 : decode cL_goes 411 = .ok (.iload 11, 2) := by decide +kernel
theorem dL_goes_413 : decode cL_goes 413 = .ok (.iconst 1, 1) := by decide +kernel
theorem dL_goes_414 : decode cL_goes 414 = .ok (.if_icmp .le 51, 3) := by decide +kernel
theorem dL_goes_417 : decode cL_goes 417 = .ok (.iload 8, 2) := by decide +kernel
theorem dL_goes_419 : decode cL_goes 419 = .ok (.ifCond .eq 46, 3) := by decide +kernel
theorem dL_goes_422 : decode cL_goes 422 = .ok (.aload_n 0, 1) := by decide +kernel
theorem dL_goes_423 : decode cL_goes 423 = .ok (.aload_n 1, 1) := by decide +kernel
theorem dL_goes_424 : decode cL_goes 424 = .ok (.iload 11, 2) := by decide +kernel
theorem dL_goes_426 : decode cL_goes 426 = .ok (.iconst 1, 1) := by decide +kernel
theorem dL_goes_427 : decode cL_goes 427 = .ok (.isub, 1) := by decide +kernel
theorem dL_goes_428 : decode cL_goes 428 = .ok (.invokestatic 218, 3) := by decide +kernel
theorem dL_goes_431 : decode cL_goes 431 = .ok (.ifCond .eq 31, 3) := by decide +kernel
theorem dL_goes_434 : decode cL_goes 434 = .ok (.aload_n 0, 1) := by decide +kernel
theorem dL_goes_435 : decode cL_goes 435 = .ok (.iconst 2, 1) := by decide +kernel
theorem dL_goes_436 : decode cL_goes 436 = .ok (.iconst 1, 1) := by decide +kernel
theorem dL_goes_437 : decode cL_goes 437 = .ok (.iconst 0, 1) := by decide +kernel
