/-! p29: the law's instructions. -/
theorem dL_holds_445 : decode cL_holds 445 = .ok (.iconst 0, 1) := by decide +kernel
theorem dL_holds_446 : decode cL_holds 446 = .ok (.invokestatic 164, 3) := by decide +kernel
theorem dL_holds_449 : decode cL_holds 449 = .ok (.iadd, 1) := by decide +kernel
theorem dL_holds_450 : decode cL_holds 450 = .ok (.istore 12, 2) := by decide +kernel
theorem dL_holds_452 : decode cL_holds 452 = .ok (.iconst 1, 1) := by decide +kernel
theorem dL_holds_453 : decode cL_holds 453 = .ok (.iload_n 1, 1) := by decide +kernel
theorem dL_holds_454 : decode cL_holds 454 = .ok (.bipush 6, 2) := by decide +kernel
theorem dL_holds_456 : decode cL_holds 456 = .ok (.irem, 1) := by decide +kernel
theorem dL_holds_457 : decode cL_holds 457 = .ok (.iadd, 1) := by decide +kernel
theorem dL_holds_458 : decode cL_holds 458 = .ok (.istore 17, 2) := by decide +kernel
theorem dL_holds_460 : decode cL_holds 460 = .ok (.aload_n 0, 1) := by decide +kernel
theorem dL_holds_461 : decode cL_holds 461 = .ok (.bipush 18, 2) := by decide +kernel
theorem dL_holds_463 : decode cL_holds 463 = .ok (.iload 16, 2) := by decide +kernel
theorem dL_holds_465 : decode cL_holds 465 = .ok (.iload 17, 2) := by decide +kernel
theorem dL_holds_467 : decode cL_holds 467 = .ok (.iconst 0, 1) := by decide +kernel
theorem dL_holds_468 : decode cL_holds 468 = .ok (.invokestatic 164, 3) := by decide +kernel
theorem dL_holds_471 : decode cL_holds 471 = .ok (.istore 18, 2) := by decide +kernel
theorem dL_holds_473 : decode cL_holds 473 = .ok (.aload_n 0, 1) := by decide +kernel
theorem dL_holds_474 : decode cL_holds 474 = .ok (.iconst 5, 1) := by decide +kernel
theorem dL_holds_475 : decode cL_holds 475 = .ok (.iload 16, 2) := by decide +kernel
theorem dL_holds_477 : decode cL_holds 477 = .ok (.iconst 2, 1) := by decide +kernel
theorem dL_holds_478 : decode cL_holds 478 = .ok (.iconst 0, 1) := by decide +kernel
theorem dL_holds_479 : decode cL_holds 479 = .ok (.invokestatic 164, 3) := by decide +kernel
theorem dL_holds_482 : decode cL_holds 482 = .ok (.iload 15, 2) := by decide +kernel
theorem dL_holds_484 : decode cL_holds 484 = .ok (.iload 16, 2) := by decide +kernel
theorem dL_holds_486 : decode cL_holds 486 = .ok (.ishr, 1) := by decide +kernel
theorem dL_holds_487 : decode cL_holds 487 = .ok (.iconst 1, 1) := by decide +kernel
theorem dL_holds_488 : decode cL_holds 488 = .ok (.iand, 1) := by decide +kernel
theorem dL_holds_489 : decode cL_holds 489 = .ok (.if_icmp .ne 85, 3) := by decide +kernel
theorem dL_holds_492 : decode cL_holds 492 = .ok (.iload 18, 2) := by decide +kernel
theorem dL_holds_494 : decode cL_holds 494 = .ok (.iconst (-1), 1) := by decide +kernel
theorem dL_holds_495 : decode cL_holds 495 = .ok (.if_icmp .ne 18, 3) := by decide +kernel
theorem dL_holds_498 : decode cL_holds 498 = .ok (.aload_n 0, 1) := by decide +kernel
theorem dL_holds_499 : decode cL_holds 499 = .ok (.iconst 5, 1) := by decide +kernel
theorem dL_holds_500 : decode cL_holds 500 = .ok (.iload 16, 2) := by decide +kernel
theorem dL_holds_502 : decode cL_holds 502 = .ok (.iconst 1, 1) := by decide +kernel
theorem dL_holds_503 : decode cL_holds 503 = .ok (.iconst 0, 1) := by decide +kernel
theorem dL_holds_504 : decode cL_holds 504 = .ok (.invokestatic 164, 3) := by decide +kernel
theorem dL_holds_507 : decode cL_holds 507 = .ok (.ifCond .le 67, 3) := by decide +kernel
theorem dL_holds_510 : decode cL_holds 510 = .ok (.goto 15, 3) := by decide +kernel
theorem dL_holds_513 : decode cL_holds 513 = .ok (.iload 18, 2) := by decide +kernel
theorem dL_holds_515 : decode cL_holds 515 = .ok (.ifCond .lt 59, 3) := by decide +kernel
theorem dL_holds_518 : decode cL_holds 518 = .ok (.iload 18, 2) := by decide +kernel
theorem dL_holds_520 : decode cL_holds 520 = .ok (.bipush 24, 2) := by decide +kernel
theorem dL_holds_522 : decode cL_holds 522 = .ok (.if_icmp .ge 52, 3) := by decide +kernel
theorem dL_holds_525 : decode cL_holds 525 = .ok (.iload 18, 2) := by decide +kernel
theorem dL_holds_527 : decode cL_holds 527 = .ok (.iconst (-1), 1) := by decide +kernel
theorem dL_holds_528 : decode cL_holds 528 = .ok (.if_icmp .eq 16, 3) := by decide +kernel
theorem dL_holds_531 : decode cL_holds 531 = .ok (.aload_n 0, 1) := by decide +kernel
theorem dL_holds_532 : decode cL_holds 532 = .ok (.iload 16, 2) := by decide +kernel
