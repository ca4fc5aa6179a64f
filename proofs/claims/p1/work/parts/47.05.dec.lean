/-! THE LAW: decode rows -/
theorem d_Law_law_409 : decode b_Law_law 409 = .ok (.ireturn, 1) := by decide +kernel
theorem d_Law_law_410 : decode b_Law_law 410 = .ok (.goto 718, 3) := by decide +kernel
theorem d_Law_law_413 : decode b_Law_law 413 = .ok (.aload_n 1, 1) := by decide +kernel
theorem d_Law_law_414 : decode b_Law_law 414 = .ok (.aload_n 0, 1) := by decide +kernel
theorem d_Law_law_415 : decode b_Law_law 415 = .ok (.iload 4, 2) := by decide +kernel
theorem d_Law_law_417 : decode b_Law_law 417 = .ok (.iconst 1, 1) := by decide +kernel
theorem d_Law_law_418 : decode b_Law_law 418 = .ok (.iadd, 1) := by decide +kernel
theorem d_Law_law_419 : decode b_Law_law 419 = .ok (.iaload, 1) := by decide +kernel
theorem d_Law_law_420 : decode b_Law_law 420 = .ok (.aload_n 0, 1) := by decide +kernel
theorem d_Law_law_421 : decode b_Law_law 421 = .ok (.iload 4, 2) := by decide +kernel
theorem d_Law_law_423 : decode b_Law_law 423 = .ok (.iconst 2, 1) := by decide +kernel
theorem d_Law_law_424 : decode b_Law_law 424 = .ok (.iadd, 1) := by decide +kernel
theorem d_Law_law_425 : decode b_Law_law 425 = .ok (.iaload, 1) := by decide +kernel
theorem d_Law_law_426 : decode b_Law_law 426 = .ok (.aload_n 3, 1) := by decide +kernel
theorem d_Law_law_427 : decode b_Law_law 427 = .ok (.invokestatic 96, 3) := by decide +kernel
theorem d_Law_law_430 : decode b_Law_law 430 = .ok (.istore 5, 2) := by decide +kernel
theorem d_Law_law_432 : decode b_Law_law 432 = .ok (.aload_n 2, 1) := by decide +kernel
theorem d_Law_law_433 : decode b_Law_law 433 = .ok (.aload_n 0, 1) := by decide +kernel
theorem d_Law_law_434 : decode b_Law_law 434 = .ok (.iload 4, 2) := by decide +kernel
theorem d_Law_law_436 : decode b_Law_law 436 = .ok (.iconst 1, 1) := by decide +kernel
theorem d_Law_law_437 : decode b_Law_law 437 = .ok (.iadd, 1) := by decide +kernel
theorem d_Law_law_438 : decode b_Law_law 438 = .ok (.iaload, 1) := by decide +kernel
theorem d_Law_law_439 : decode b_Law_law 439 = .ok (.aload_n 0, 1) := by decide +kernel
theorem d_Law_law_440 : decode b_Law_law 440 = .ok (.iload 4, 2) := by decide +kernel
theorem d_Law_law_442 : decode b_Law_law 442 = .ok (.iconst 2, 1) := by decide +kernel
theorem d_Law_law_443 : decode b_Law_law 443 = .ok (.iadd, 1) := by decide +kernel
theorem d_Law_law_444 : decode b_Law_law 444 = .ok (.iaload, 1) := by decide +kernel
theorem d_Law_law_445 : decode b_Law_law 445 = .ok (.invokevirtual 99, 3) := by decide +kernel
theorem d_Law_law_448 : decode b_Law_law 448 = .ok (.istore 6, 2) := by decide +kernel
theorem d_Law_law_450 : decode b_Law_law 450 = .ok (.aload_n 2, 1) := by decide +kernel
theorem d_Law_law_451 : decode b_Law_law 451 = .ok (.invokevirtual 83, 3) := by decide +kernel
theorem d_Law_law_454 : decode b_Law_law 454 = .ok (.iload 5, 2) := by decide +kernel
theorem d_Law_law_456 : decode b_Law_law 456 = .ok (.if_icmp .eq 5, 3) := by decide +kernel
theorem d_Law_law_459 : decode b_Law_law 459 = .ok (.iconst 0, 1) := by decide +kernel
theorem d_Law_law_460 : decode b_Law_law 460 = .ok (.ireturn, 1) := by decide +kernel
theorem d_Law_law_461 : decode b_Law_law 461 = .ok (.iload 5, 2) := by decide +kernel
theorem d_Law_law_463 : decode b_Law_law 463 = .ok (.ifCond .ne 15, 3) := by decide +kernel
theorem d_Law_law_466 : decode b_Law_law 466 = .ok (.aload_n 3, 1) := by decide +kernel
theorem d_Law_law_467 : decode b_Law_law 467 = .ok (.iconst 0, 1) := by decide +kernel
theorem d_Law_law_468 : decode b_Law_law 468 = .ok (.laload, 1) := by decide +kernel
theorem d_Law_law_469 : decode b_Law_law 469 = .ok (.iload 6, 2) := by decide +kernel
theorem d_Law_law_471 : decode b_Law_law 471 = .ok (.i2l, 1) := by decide +kernel
theorem d_Law_law_472 : decode b_Law_law 472 = .ok (.lcmp, 1) := by decide +kernel
theorem d_Law_law_473 : decode b_Law_law 473 = .ok (.ifCond .eq 5, 3) := by decide +kernel
theorem d_Law_law_476 : decode b_Law_law 476 = .ok (.iconst 0, 1) := by decide +kernel
theorem d_Law_law_477 : decode b_Law_law 477 = .ok (.ireturn, 1) := by decide +kernel
theorem d_Law_law_478 : decode b_Law_law 478 = .ok (.goto 650, 3) := by decide +kernel
theorem d_Law_law_481 : decode b_Law_law 481 = .ok (.aload_n 1, 1) := by decide +kernel
theorem d_Law_law_482 : decode b_Law_law 482 = .ok (.aload_n 0, 1) := by decide +kernel
theorem d_Law_law_483 : decode b_Law_law 483 = .ok (.iload 4, 2) := by decide +kernel
