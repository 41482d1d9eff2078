/-! p29: the law's instructions. -/
theorem dL_refuses_458 : decode cL_refuses 458 = .ok (.iload_n 1, 1) := by decide +kernel
theorem dL_refuses_459 : decode cL_refuses 459 = .ok (.iconst 2, 1) := by decide +kernel
theorem dL_refuses_460 : decode cL_refuses 460 = .ok (.irem, 1) := by decide +kernel
theorem dL_refuses_461 : decode cL_refuses 461 = .ok (.ifCond .ne 7, 3) := by decide +kernel
theorem dL_refuses_464 : decode cL_refuses 464 = .ok (.iconst (-1), 1) := by decide +kernel
theorem dL_refuses_465 : decode cL_refuses 465 = .ok (.goto 9, 3) := by decide +kernel
theorem dL_refuses_468 : decode cL_refuses 468 = .ok (.iconst 4, 1) := by decide +kernel
theorem dL_refuses_469 : decode cL_refuses 469 = .ok (.iload_n 1, 1) := by decide +kernel
theorem dL_refuses_470 : decode cL_refuses 470 = .ok (.bipush 9, 2) := by decide +kernel
theorem dL_refuses_472 : decode cL_refuses 472 = .ok (.irem, 1) := by decide +kernel
theorem dL_refuses_473 : decode cL_refuses 473 = .ok (.iadd, 1) := by decide +kernel
theorem dL_refuses_474 : decode cL_refuses 474 = .ok (.iconst 0, 1) := by decide +kernel
theorem dL_refuses_475 : decode cL_refuses 475 = .ok (.invokestatic 164, 3) := by decide +kernel
theorem dL_refuses_478 : decode cL_refuses 478 = .ok (.ldc 15, 2) := by decide +kernel
theorem dL_refuses_480 : decode cL_refuses 480 = .ok (.if_icmp .ne 275, 3) := by decide +kernel
theorem dL_refuses_483 : decode cL_refuses 483 = .ok (.aload_n 0, 1) := by decide +kernel
theorem dL_refuses_484 : decode cL_refuses 484 = .ok (.bipush 13, 2) := by decide +kernel
theorem dL_refuses_486 : decode cL_refuses 486 = .ok (.iconst 1, 1) := by decide +kernel
theorem dL_refuses_487 : decode cL_refuses 487 = .ok (.iload_n 1, 1) := by decide +kernel
theorem dL_refuses_488 : decode cL_refuses 488 = .ok (.iconst 2, 1) := by decide +kernel
theorem dL_refuses_489 : decode cL_refuses 489 = .ok (.irem, 1) := by decide +kernel
theorem dL_refuses_490 : decode cL_refuses 490 = .ok (.ifCond .ne 7, 3) := by decide +kernel
theorem dL_refuses_493 : decode cL_refuses 493 = .ok (.iconst (-1), 1) := by decide +kernel
theorem dL_refuses_494 : decode cL_refuses 494 = .ok (.goto 10, 3) := by decide +kernel
theorem dL_refuses_497 : decode cL_refuses 497 = .ok (.bipush 10, 2) := by decide +kernel
theorem dL_refuses_499 : decode cL_refuses 499 = .ok (.iload_n 1, 1) := by decide +kernel
theorem dL_refuses_500 : decode cL_refuses 500 = .ok (.bipush 9, 2) := by decide +kernel
theorem dL_refuses_502 : decode cL_refuses 502 = .ok (.irem, 1) := by decide +kernel
theorem dL_refuses_503 : decode cL_refuses 503 = .ok (.iadd, 1) := by decide +kernel
theorem dL_refuses_504 : decode cL_refuses 504 = .ok (.iconst 0, 1) := by decide +kernel
theorem dL_refuses_505 : decode cL_refuses 505 = .ok (.invokestatic 164, 3) := by decide +kernel
theorem dL_refuses_508 : decode cL_refuses 508 = .ok (.ldc 15, 2) := by decide +kernel
theorem dL_refuses_510 : decode cL_refuses 510 = .ok (.if_icmp .ne 245, 3) := by decide +kernel
theorem dL_refuses_513 : decode cL_refuses 513 = .ok (.aload_n 0, 1) := by decide +kernel
theorem dL_refuses_514 : decode cL_refuses 514 = .ok (.bipush 13, 2) := by decide +kernel
theorem dL_refuses_516 : decode cL_refuses 516 = .ok (.iconst 2, 1) := by decide +kernel
theorem dL_refuses_517 : decode cL_refuses 517 = .ok (.iload_n 1, 1) := by decide +kernel
theorem dL_refuses_518 : decode cL_refuses 518 = .ok (.iconst 2, 1) := by decide +kernel
theorem dL_refuses_519 : decode cL_refuses 519 = .ok (.irem, 1) := by decide +kernel
theorem dL_refuses_520 : decode cL_refuses 520 = .ok (.ifCond .ne 7, 3) := by decide +kernel
theorem dL_refuses_523 : decode cL_refuses 523 = .ok (.iconst (-1), 1) := by decide +kernel
theorem dL_refuses_524 : decode cL_refuses 524 = .ok (.goto 10, 3) := by decide +kernel
theorem dL_refuses_527 : decode cL_refuses 527 = .ok (.bipush 61, 2) := by decide +kernel
theorem dL_refuses_529 : decode cL_refuses 529 = .ok (.iload_n 1, 1) := by decide +kernel
theorem dL_refuses_530 : decode cL_refuses 530 = .ok (.bipush 9, 2) := by decide +kernel
theorem dL_refuses_532 : decode cL_refuses 532 = .ok (.irem, 1) := by decide +kernel
theorem dL_refuses_533 : decode cL_refuses 533 = .ok (.iadd, 1) := by decide +kernel
theorem dL_refuses_534 : decode cL_refuses 534 = .ok (.iconst 0, 1) := by decide +kernel
theorem dL_refuses_535 : decode cL_refuses 535 = .ok (.invokestatic 164, 3) := by decide +kernel
theorem dL_refuses_538 : decode cL_refuses 538 = .ok (.ldc 15, 2) := by decide +kernel
