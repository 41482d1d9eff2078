/-! p29: the law's instructions. -/
theorem dL_holds_413 : decode cL_holds 413 = .ok (.iconst 5, 1) := by decide +kernel
theorem dL_holds_414 : decode cL_holds 414 = .ok (.iload 16, 2) := by decide +kernel
theorem dL_holds_416 : decode cL_holds 416 = .ok (.iconst 1, 1) := by decide +kernel
theorem dL_holds_417 : decode cL_holds 417 = .ok (.iconst 0, 1) := by decide +kernel
theorem dL_holds_418 : decode cL_holds 418 = .ok (.invokestatic 164, 3) := by decide +kernel
theorem dL_holds_421 : decode cL_holds 421 = .ok (.iadd, 1) := by decide +kernel
theorem dL_holds_422 : decode cL_holds 422 = .ok (.istore 14, 2) := by decide +kernel
theorem dL_holds_424 : decode cL_holds 424 = .ok (.iload 11, 2) := by decide +kernel
theorem dL_holds_426 : decode cL_holds 426 = .ok (.aload_n 0, 1) := by decide +kernel
theorem dL_holds_427 : decode cL_holds 427 = .ok (.iconst 5, 1) := by decide +kernel
theorem dL_holds_428 : decode cL_holds 428 = .ok (.iload 16, 2) := by decide +kernel
theorem dL_holds_430 : decode cL_holds 430 = .ok (.iconst 3, 1) := by decide +kernel
theorem dL_holds_431 : decode cL_holds 431 = .ok (.iconst 0, 1) := by decide +kernel
theorem dL_holds_432 : decode cL_holds 432 = .ok (.invokestatic 164, 3) := by decide +kernel
theorem dL_holds_435 : decode cL_holds 435 = .ok (.iadd, 1) := by decide +kernel
theorem dL_holds_436 : decode cL_holds 436 = .ok (.istore 11, 2) := by decide +kernel
theorem dL_holds_438 : decode cL_holds 438 = .ok (.iload 12, 2) := by decide +kernel
theorem dL_holds_440 : decode cL_holds 440 = .ok (.aload_n 0, 1) := by decide +kernel
theorem dL_holds_441 : decode cL_holds 441 = .ok (.iconst 5, 1) := by decide +kernel
theorem dL_holds_442 : decode cL_holds 442 = .ok (.iload 16, 2) := by decide +kernel
theorem dL_holds_444 : decode cL_holds 444 = .ok (.iconst 4, 1) := by decide +kernel
theorem dL_holds_445 : decode cL_holds 445 = .ok (.iconst 0, 1) := by decide +kernel
theorem dL_holds_446 : decode cL_holds 446 = .ok (.invokestatic 164, 3) := by decide +kernel
theorem dL_holds_449 : decode cL_holds 449 = .ok (.iadd, 1) := by decide +kernel
theorem dL_holds_450 : decode cL_holds 450 = .ok (.istore 12, 2) := by decide +kernel
theorem dL_holds_452 : decode cL_holds 452 = .ok (.iconst 1, 1) := by decide +kernel
theorem dL_holds_453 : decode cL_holds 453 = .ok (.iload_n 1, 1) := by decide +kernel
theorem dL_holds_454 : decode cL_holds 454 = .ok (.bipush 6, 2) := by decide +kernel
theorem dL_holds_456 : decode cL_holds 456 = .ok (.irem, 1) := by decide +kernel
theorem dL_holds_457 : decode cL_holds 457 = .ok (.iadd, 1) := by decide +kernel
theorem dL_holds_458 : decode cL_holds 458 = .ok (.istore 17, 2) := by decide +kernel
theorem dL_holds_460 : decode cL_holds 460 = .ok (.aload_n 0, 1) := by decide +kernel
theorem dL_holds_461 : decode cL_holds 461 = .ok (.bipush 18, 2) := by decide +kernel
theorem dL_holds_463 : decode cL_holds 463 = .ok (.iload 16, 2) := by decide +kernel
theorem dL_holds_465 : decode cL_holds 465 = .ok (.iload 17, 2) := by decide +kernel
theorem dL_holds_467 : decode cL_holds 467 = .ok (.iconst 0, 1) := by decide +kernel
theorem dL_holds_468 : decode cL_holds 468 = .ok (.invokestatic 164, 3) := by decide +kernel
theorem dL_holds_471 : decode cL_holds 471 = .ok (.istore 18, 2) := by decide +kernel
theorem dL_holds_473 : decode cL_holds 473 = .ok (.aload_n 0, 1) := by decide +kernel
theorem dL_holds_474 : decode cL_holds 474 = .ok (.iconst 5, 1) := by decide +kernel
theorem dL_holds_475 : decode cL_holds 475 = .ok (.iload 16, 2) := by decide +kernel
theorem dL_holds_477 : decode cL_holds 477 = .ok (.iconst 2, 1) := by decide +kernel
theorem dL_holds_478 : decode cL_holds 478 = .ok (.iconst 0, 1) := by decide +kernel
theorem dL_holds_479 : decode cL_holds 479 = .ok (.invokestatic 164, 3) := by decide +kernel
theorem dL_holds_482 : decode cL_holds 482 = .ok (.iload 15, 2) := by decide +kernel
theorem dL_holds_484 : decode cL_holds 484 = .ok (.iload 16, 2) := by decide +kernel
theorem dL_holds_486 : decode cL_holds 486 = .ok (.ishr, 1) := by decide +kernel
theorem dL_holds_487 : decode cL_holds 487 = .ok (.iconst 1, 1) := by decide +kernel
theorem dL_holds_488 : decode cL_holds 488 = .ok (.iand, 1) := by decide +kernel
theorem dL_holds_489 : decode cL_holds 489 = .ok (.if_icmp .ne 85, 3) := by decide +kernel
