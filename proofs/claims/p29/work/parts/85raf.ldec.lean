/-! p29: the law's instructions. -/
theorem dL_refuses_404 : decode cL_refuses 404 = .ok (.ldc 40, 2) := by decide +kernel
theorem dL_refuses_406 : decode cL_refuses 406 = .ok (.if_icmp .ne 349, 3) := by decide +kernel
theorem dL_refuses_409 : decode cL_refuses 409 = .ok (.aload_n 0, 1) := by decide +kernel
theorem dL_refuses_410 : decode cL_refuses 410 = .ok (.bipush 11, 2) := by decide +kernel
theorem dL_refuses_412 : decode cL_refuses 412 = .ok (.iload 6, 2) := by decide +kernel
theorem dL_refuses_414 : decode cL_refuses 414 = .ok (.iconst 0, 1) := by decide +kernel
theorem dL_refuses_415 : decode cL_refuses 415 = .ok (.iconst 0, 1) := by decide +kernel
theorem dL_refuses_416 : decode cL_refuses 416 = .ok (.invokestatic 164, 3) := by decide +kernel
theorem dL_refuses_419 : decode cL_refuses 419 = .ok (.ldc 40, 2) := by decide +kernel
theorem dL_refuses_421 : decode cL_refuses 421 = .ok (.if_icmp .ne 334, 3) := by decide +kernel
theorem dL_refuses_424 : decode cL_refuses 424 = .ok (.aload_n 0, 1) := by decide +kernel
theorem dL_refuses_425 : decode cL_refuses 425 = .ok (.bipush 12, 2) := by decide +kernel
theorem dL_refuses_427 : decode cL_refuses 427 = .ok (.iload_n 1, 1) := by decide +kernel
theorem dL_refuses_428 : decode cL_refuses 428 = .ok (.iconst 2, 1) := by decide +kernel
theorem dL_refuses_429 : decode cL_refuses 429 = .ok (.irem, 1) := by decide +kernel
theorem dL_refuses_430 : decode cL_refuses 430 = .ok (.ifCond .ne 7, 3) := by decide +kernel
theorem dL_refuses_433 : decode cL_refuses 433 = .ok (.iconst 0, 1) := by decide +kernel
theorem dL_refuses_434 : decode cL_refuses 434 = .ok (.goto 10, 3) := by decide +kernel
theorem dL_refuses_437 : decode cL_refuses 437 = .ok (.bipush 100, 2) := by decide +kernel
theorem dL_refuses_439 : decode cL_refuses 439 = .ok (.iload_n 1, 1) := by decide +kernel
theorem dL_refuses_440 : decode cL_refuses 440 = .ok (.bipush 9, 2) := by decide +kernel
theorem dL_refuses_442 : decode cL_refuses 442 = .ok (.irem, 1) := by decide +kernel
theorem dL_refuses_443 : decode cL_refuses 443 = .ok (.iadd, 1) := by decide +kernel
theorem dL_refuses_444 : decode cL_refuses 444 = .ok (.iconst 0, 1) := by decide +kernel
theorem dL_refuses_445 : decode cL_refuses 445 = .ok (.iconst 0, 1) := by decide +kernel
theorem dL_refuses_446 : decode cL_refuses 446 = .ok (.invokestatic 164, 3) := by decide +kernel
theorem dL_refuses_449 : decode cL_refuses 449 = .ok (.ldc 15, 2) := by decide +kernel
theorem dL_refuses_451 : decode cL_refuses 451 = .ok (.if_icmp .ne 304, 3) := by decide +kernel
theorem dL_refuses_454 : decode cL_refuses 454 = .ok (.aload_n 0, 1) := by decide +kernel
theorem dL_refuses_455 : decode cL_refuses 455 = .ok (.bipush 13, 2) := by decide +kernel
theorem dL_refuses_457 : decode cL_refuses 457 = .ok (.iconst 0, 1) := by decide +kernel
theorem dL_refuses_458 : decode cL_refuses 458 = .ok (.iload_n 1, 1) := by decide +kernel
theorem dL_refuses_459 : decode cL_refuses 459 = .ok (.iconst 2, 1) := by decide +kernel
theorem dL_refuses_460 : decode cL_refuses 460 = .ok (.irem, 1) := by decide +kernel
theorem dL_refuses_461 : decode cL_refuses 461 = .ok (.ifCond .ne 7, 3) := by decide +kernel
theorem dL_refuses_464 : decode cL_refuses 464 = .ok (.iconst (-1), 1) := by decide +kernel
theorem dL_refuses_465 : decode cL_refuses 465 = .ok (.goto 9, 3) := by decide +kernel
theorem dL_refuses_468 : decode cL_refuses 468 = .ok (.iconst 4, 1) := by decide +kernel
theorem dL_refuses_469 : decode cL_refuses 469 = .ok (.iload_n 1, 1) := by decide +kernel
theorem dL_refuses_470 : decode cL_refuses 470 = .ok (.bipush 9, 2) := by decide +kernel
theorem dL_refuses_472 : decode cL_refuses 472 = .ok (.irem, 1) := by decide +kernel
theorem dL_refuses_473 : decode cL_refuses 473 = .ok (.iadd, 1) := by decide +kernel
theorem dL_refuses_474 : decode cL_refuses 474 = .ok (.iconst 0, 1) := by decide +kernel
theorem dL_refuses_475 : decode cL_refuses 475 = .ok (.invokestatic 164, 3) := by decide +kernel
theorem dL_refuses_478 : decode cL_refuses 478 = .ok (.ldc 15, 2) := by decide +kernel
theorem dL_refuses_480 : decode cL_refuses 480 = .ok (.if_icmp .ne 275, 3) := by decide +kernel
theorem dL_refuses_483 : decode cL_refuses 483 = .ok (.aload_n 0, 1) := by decide +kernel
theorem dL_refuses_484 : decode cL_refuses 484 = .ok (.bipush 13, 2) := by decide +kernel
theorem dL_refuses_486 : decode cL_refuses 486 = .ok (.iconst 1, 1) := by decide +kernel
theorem dL_refuses_487 : decode cL_refuses 487 = .ok (.iload_n 1, 1) := by decide +kernel
