/-! p29: the law's instructions. -/
theorem dL_goes_379 : decode cL_goes 379 = .ok (.iload 10, 2) := by decide +kernel
theorem dL_goes_381 : decode cL_goes 381 = .ok (.iconst (-1), 1) := by decide +kernel
theorem dL_goes_382 : decode cL_goes 382 = .ok (.if_icmp .ne 7, 3) := by decide +kernel
theorem dL_goes_385 : decode cL_goes 385 = .ok (.iconst 0, 1) := by decide +kernel
theorem dL_goes_386 : decode cL_goes 386 = .ok (.goto 4, 3) := by decide +kernel
theorem dL_goes_389 : decode cL_goes 389 = .ok (.iconst 1, 1) := by decide +kernel
theorem dL_goes_390 : decode cL_goes 390 = .ok (.iadd, 1) := by decide +kernel
theorem dL_goes_391 : decode cL_goes 391 = .ok (.if_icmp .ne 17, 3) := by decide +kernel
theorem dL_goes_394 : decode cL_goes 394 = .ok (.aload_n 0, 1) := by decide +kernel
theorem dL_goes_395 : decode cL_goes 395 = .ok (.aload_n 1, 1) := by decide +kernel
theorem dL_goes_396 : decode cL_goes 396 = .ok (.iload 11, 2) := by decide +kernel
theorem dL_goes_398 : decode cL_goes 398 = .ok (.invokestatic 221, 3) := by decide +kernel
theorem dL_goes_401 : decode cL_goes 401 = .ok (.ifCond .eq 7, 3) := by decide +kernel
theorem dL_goes_404 : decode cL_goes 404 = .ok (.iconst 1, 1) := by decide +kernel
theorem dL_goes_405 : decode cL_goes 405 = .ok (.goto 4, 3) := by decide +kernel
theorem dL_goes_408 : decode cL_goes 408 = .ok (.iconst 0, 1) := by decide +kernel
theorem dL_goes_409 : decode cL_goes 409 = .ok (.istore 8, 2) := by decide +kernel
theorem dL_goes_411 : decode cL_goes 411 = .ok (.iload 11, 2) := by decide +kernel
theorem dL_goes_413 : decode cL_goes 413 = .ok (.iconst 1, 1) := by decide +kernel
theorem dL_goes_414 : decode cL_goes 414 = .ok (.if_icmp .le 51, 3) := by decide +kernel
theorem dL_goes_417 : decode cL_goes 417 = .ok (.iload 8, 2) := by decide +kernel
theorem dL_goes_419 : decode cL_goes 419 = .ok (.ifCond .eq 46, 3) := by decide +kernel
theorem dL_goes_422 : decode cL_goes 422 = .ok (.aload_n 0, 1) := by decide +kernel
theorem dL_goes_423 : decode cL_goes 423 = .ok (.aload_n 1, 1) := by decide +kernel
theorem dL_goes_424 : decode cL_goes 424 = .ok (.iload 11, 2) := by decide +kernel
theorem dL_goes_426 : decode cL_goes 426 = .ok (.iconst 1, 1) := by decide +kernel
theorem dL_goes_427 : decode cL_goes 427 = .ok (.isub, 1) := by decide +kernel
theorem dL_goes_428 : decode cL_goes 428 = .ok (.invokestatic 218, 3) := by decide +kernel
theorem dL_goes_431 : decode cL_goes 431 = .ok (.ifCond .eq 31, 3) := by decide +kernel
theorem dL_goes_434 : decode cL_goes 434 = .ok (.aload_n 0, 1) := by decide +kernel
theorem dL_goes_435 : decode cL_goes 435 = .ok (.iconst 2, 1) := by decide +kernel
theorem dL_goes_436 : decode cL_goes 436 = .ok (.iconst 1, 1) := by decide +kernel
theorem dL_goes_437 : decode cL_goes 437 = .ok (.iconst 0, 1) := by decide +kernel
theorem dL_goes_438 : decode cL_goes 438 = .ok (.iconst 0, 1) := by decide +kernel
theorem dL_goes_439 : decode cL_goes 439 = .ok (.invokestatic 164, 3) := by decide +kernel
theorem dL_goes_442 : decode cL_goes 442 = .ok (.iconst 1, 1) := by decide +kernel
theorem dL_goes_443 : decode cL_goes 443 = .ok (.if_icmp .ne 19, 3) := by decide +kernel
theorem dL_goes_446 : decode cL_goes 446 = .ok (.aload_n 0, 1) := by decide +kernel
theorem dL_goes_447 : decode cL_goes 447 = .ok (.aload_n 1, 1) := by decide +kernel
theorem dL_goes_448 : decode cL_goes 448 = .ok (.iload 11, 2) := by decide +kernel
theorem dL_goes_450 : decode cL_goes 450 = .ok (.iconst 1, 1) := by decide +kernel
theorem dL_goes_451 : decode cL_goes 451 = .ok (.isub, 1) := by decide +kernel
theorem dL_goes_452 : decode cL_goes 452 = .ok (.invokestatic 221, 3) := by decide +kernel
theorem dL_goes_455 : decode cL_goes 455 = .ok (.ifCond .eq 7, 3) := by decide +kernel
theorem dL_goes_458 : decode cL_goes 458 = .ok (.iconst 1, 1) := by decide +kernel
theorem dL_goes_459 : decode cL_goes 459 = .ok (.goto 4, 3) := by decide +kernel
theorem dL_goes_462 : decode cL_goes 462 = .ok (.iconst 0, 1) := by decide +kernel
theorem dL_goes_463 : decode cL_goes 463 = .ok (.istore 8, 2) := by decide +kernel
theorem dL_goes_465 : decode cL_goes 465 = .ok (.iload 9, 2) := by decide +kernel
theorem dL_goes_467 : decode cL_goes 467 = .ok (.iconst 1, 1) := by decide +kernel
