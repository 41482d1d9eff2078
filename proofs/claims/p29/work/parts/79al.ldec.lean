/-! p29: the law's instructions. -/
theorem dL_refuses_369 : decode cL_refuses 369 = .ok (.irem, 1) := by decide +kernel
theorem dL_refuses_370 : decode cL_refuses 370 = .ok (.iadd, 1) := by decide +kernel
theorem dL_refuses_371 : decode cL_refuses 371 = .ok (.invokestatic 164, 3) := by decide +kernel
theorem dL_refuses_374 : decode cL_refuses 374 = .ok (.ldc 15, 2) := by decide +kernel
theorem dL_refuses_376 : decode cL_refuses 376 = .ok (.if_icmp .ne 379, 3) := by decide +kernel
theorem dL_refuses_379 : decode cL_refuses 379 = .ok (.aload_n 0, 1) := by decide +kernel
theorem dL_refuses_380 : decode cL_refuses 380 = .ok (.bipush 10, 2) := by decide +kernel
theorem dL_refuses_382 : decode cL_refuses 382 = .ok (.iload 4, 2) := by decide +kernel
theorem dL_refuses_384 : decode cL_refuses 384 = .ok (.iconst 0, 1) := by decide +kernel
theorem dL_refuses_385 : decode cL_refuses 385 = .ok (.iconst 0, 1) := by decide +kernel
theorem dL_refuses_386 : decode cL_refuses 386 = .ok (.invokestatic 164, 3) := by decide +kernel
theorem dL_refuses_389 : decode cL_refuses 389 = .ok (.ldc 40, 2) := by decide +kernel
theorem dL_refuses_391 : decode cL_refuses 391 = .ok (.if_icmp .ne 364, 3) := by decide +kernel
theorem dL_refuses_394 : decode cL_refuses 394 = .ok (.aload_n 0, 1) := by decide +kernel
theorem dL_refuses_395 : decode cL_refuses 395 = .ok (.bipush 10, 2) := by decide +kernel
theorem dL_refuses_397 : decode cL_refuses 397 = .ok (.iconst 0, 1) := by decide +kernel
theorem dL_refuses_398 : decode cL_refuses 398 = .ok (.iload 5, 2) := by decide +kernel
theorem dL_refuses_400 : decode cL_refuses 400 = .ok (.iconst 0, 1) := by decide +kernel
theorem dL_refuses_401 : decode cL_refuses 401 = .ok (.invokestatic 164, 3) := by decide +kernel
theorem dL_refuses_404 : decode cL_refuses 404 = .ok (.ldc 40, 2) := by decide +kernel
theorem dL_refuses_406 : decode cL_refuses 406 = .ok (.if_icmp .ne 349, 3) := by decide +kernel
theorem dL_refuses_409 : decode cL_refuses 409 = .ok (.aload_n 0, 1) := by decide +kernel
theorem dL_refuses_410 : decode cL_refuses 410 = .ok (.bipush 11, 2) := by decide +kernel
theorem dL_refuses_412 : decode cL_refuses 412 = .ok (.iload 6, 2) := by decide +kernel
theorem dL_refuses_414 : decode cL_refuses 414 = .ok (.iconst 0, 1) := by decide +kernel
theorem dL_refuses_415 : decode cL_refuses 415 = .ok (.iconst 0, 1) := by decide +kernel
theorem dL_refuses_416 : decode cL_refuses 416 = .ok (.invokestatic 164, 3) := by decide +kernel
theorem dL_refuses_419 : decode cL_refuses 419 = .ok (.ldc 40, 2) := by decide +kernel
theorem dL_refuses_421 : decode cL_refuses 421 = .ok (.if_icmp .ne 334, 3) := by decide +kernel
theorem dL_refuses_424 : decode cL_refuses 424 = .ok (.aload_n 0, 1) := by decide +kernel
theorem dL_refuses_425 : decode cL_refuses 425 = .ok (.bipush 12, 2) := by decide +kernel
theorem dL_refuses_427 : decode cL_refuses 427 = .ok (.iload_n 1, 1) := by decide +kernel
theorem dL_refuses_428 : decode cL_refuses 428 = .ok (.iconst 2, 1) := by decide +kernel
theorem dL_refuses_429 : decode cL_refuses 429 = .ok (.irem, 1) := by decide +kernel
theorem dL_refuses_430 : decode cL_refuses 430 = .ok (.ifCond .ne 7, 3) := by decide +kernel
theorem dL_refuses_433 : decode cL_refuses 433 = .ok (.iconst 0, 1) := by decide +kernel
theorem dL_refuses_434 : decode cL_refuses 434 = .ok (.goto 10, 3) := by decide +kernel
theorem dL_refuses_437 : decode cL_refuses 437 = .ok (.bipush 100, 2) := by decide +kernel
theorem dL_refuses_439 : decode cL_refuses 439 = .ok (.iload_n 1, 1) := by decide +kernel
theorem dL_refuses_440 : decode cL_refuses 440 = .ok (.bipush 9, 2) := by decide +kernel
theorem dL_refuses_442 : decode cL_refuses 442 = .ok (.irem, 1) := by decide +kernel
theorem dL_refuses_443 : decode cL_refuses 443 = .ok (.iadd, 1) := by decide +kernel
theorem dL_refuses_444 : decode cL_refuses 444 = .ok (.iconst 0, 1) := by decide +kernel
theorem dL_refuses_445 : decode cL_refuses 445 = .ok (.iconst 0, 1) := by decide +kernel
theorem dL_refuses_446 : decode cL_refuses 446 = .ok (.invokestatic 164, 3) := by decide +kernel
theorem dL_refuses_449 : decode cL_refuses 449 = .ok (.ldc 15, 2) := by decide +kernel
theorem dL_refuses_451 : decode cL_refuses 451 = .ok (.if_icmp .ne 304, 3) := by decide +kernel
theorem dL_refuses_454 : decode cL_refuses 454 = .ok (.aload_n 0, 1) := by decide +kernel
theorem dL_refuses_455 : decode cL_refuses 455 = .ok (.bipush 13, 2) := by decide +kernel
theorem dL_refuses_457 : decode cL_refuses 457 = .ok (.iconst 0, 1) := by decide +kernel
