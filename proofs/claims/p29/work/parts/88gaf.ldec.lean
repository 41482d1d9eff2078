/-! p29: the law's instructions. -/
theorem dL_goes_438 : decode cL_goes 438 = .ok (.iconst 0, 1) := by decide +kernel
theorem dL_goes_439 : decode cL_goes 439 = .ok (.invokestatic 164, 3) := by decide +kernel
theorem dL_goes_442 : decode cL_goes 442 = .ok (.iconst 1, 1) := by decide +kernel
theorem dL_goes_443 : decode cL_goes 443 = .ok (.if_icmp .ne 19, 3) := by decide +kernel
theorem dL_goes_446 : decode cL_goes 446 = .ok (.aload_n 0, 1) := by decide +kernel
theorem dL_goes_447 : decode cL_goes 447 = .ok (.aload_n 1, 1) := by decide +kernel
theorem dL_goes_448 : decode cL_goes 448 = .ok (.iload 11, 2) := by decide +kernel
theorem dL_goes_450 : decode cL_goes 450 = .ok (.iconst 1, 1) := by decide +kernel
theorem dL_goes_451 : decode cL_goes 451 = .ok (.isub, 1) := by decide +kernel
theorem dL_goes_452 : decode cL_goes 452 = .ok (.invokestatic 221, 3) := by decide +kernel
theorem dL_goes_455 : decode cL_goes 455 = .ok (.ifCond .eq 7, 3) := by decide +kernel
theorem dL_goes_458 : decode cL_goes 458 = .ok (.iconst 1, 1) := by decide +kernel
theorem dL_goes_459 : decode cL_goes 459 = .ok (.goto 4, 3) := by decide +kernel
theorem dL_goes_462 : decode cL_goes 462 = .ok (.iconst 0, 1) := by decide +kernel
theorem dL_goes_463 : decode cL_goes 463 = .ok (.istore 8, 2) := by decide +kernel
theorem dL_goes_465 : decode cL_goes 465 = .ok (.iload 9, 2) := by decide +kernel
theorem dL_goes_467 : decode cL_goes 467 = .ok (.iconst 1, 1) := by decide +kernel
theorem dL_goes_468 : decode cL_goes 468 = .ok (.isub, 1) := by decide +kernel
theorem dL_goes_469 : decode cL_goes 469 = .ok (.istore 13, 2) := by decide +kernel
theorem dL_goes_471 : decode cL_goes 471 = .ok (.iload 13, 2) := by decide +kernel
theorem dL_goes_473 : decode cL_goes 473 = .ok (.ifCond .le 51, 3) := by decide +kernel
theorem dL_goes_476 : decode cL_goes 476 = .ok (.iload 8, 2) := by decide +kernel
theorem dL_goes_478 : decode cL_goes 478 = .ok (.ifCond .eq 46, 3) := by decide +kernel
theorem dL_goes_481 : decode cL_goes 481 = .ok (.aload_n 0, 1) := by decide +kernel
theorem dL_goes_482 : decode cL_goes 482 = .ok (.bipush 14, 2) := by decide +kernel
theorem dL_goes_484 : decode cL_goes 484 = .ok (.iconst 0, 1) := by decide +kernel
theorem dL_goes_485 : decode cL_goes 485 = .ok (.iconst 0, 1) := by decide +kernel
theorem dL_goes_486 : decode cL_goes 486 = .ok (.iconst 0, 1) := by decide +kernel
theorem dL_goes_487 : decode cL_goes 487 = .ok (.invokestatic 164, 3) := by decide +kernel
theorem dL_goes_490 : decode cL_goes 490 = .ok (.invokestatic 214, 3) := by decide +kernel
theorem dL_goes_493 : decode cL_goes 493 = .ok (.ifCond .ne 22, 3) := by decide +kernel
theorem dL_goes_496 : decode cL_goes 496 = .ok (.aload_n 1, 1) := by decide +kernel
theorem dL_goes_497 : decode cL_goes 497 = .ok (.bipush 14, 2) := by decide +kernel
theorem dL_goes_499 : decode cL_goes 499 = .ok (.iconst 0, 1) := by decide +kernel
theorem dL_goes_500 : decode cL_goes 500 = .ok (.iconst 0, 1) := by decide +kernel
theorem dL_goes_501 : decode cL_goes 501 = .ok (.iconst 0, 1) := by decide +kernel
theorem dL_goes_502 : decode cL_goes 502 = .ok (.invokestatic 164, 3) := by decide +kernel
theorem dL_goes_505 : decode cL_goes 505 = .ok (.invokestatic 214, 3) := by decide +kernel
theorem dL_goes_508 : decode cL_goes 508 = .ok (.ifCond .ne 7, 3) := by decide +kernel
theorem dL_goes_511 : decode cL_goes 511 = .ok (.iconst 1, 1) := by decide +kernel
theorem dL_goes_512 : decode cL_goes 512 = .ok (.goto 4, 3) := by decide +kernel
theorem dL_goes_515 : decode cL_goes 515 = .ok (.iconst 0, 1) := by decide +kernel
theorem dL_goes_516 : decode cL_goes 516 = .ok (.istore 8, 2) := by decide +kernel
theorem dL_goes_518 : decode cL_goes 518 = .ok (.iinc 13 (-1), 3) := by decide +kernel
theorem dL_goes_521 : decode cL_goes 521 = .ok (.goto (-50), 3) := by decide +kernel
theorem dL_goes_524 : decode cL_goes 524 = .ok (.iload 8, 2) := by decide +kernel
theorem dL_goes_526 : decode cL_goes 526 = .ok (.ifCond .eq 34, 3) := by decide +kernel
theorem dL_goes_529 : decode cL_goes 529 = .ok (.aload_n 0, 1) := by decide +kernel
theorem dL_goes_530 : decode cL_goes 530 = .ok (.iconst 2, 1) := by decide +kernel
theorem dL_goes_531 : decode cL_goes 531 = .ok (.iconst 1, 1) := by decide +kernel
