/-! THE LAW: decode rows -/
theorem d_Law_law_472 : decode b_Law_law 472 = .ok (.istore 6, 2) := by decide +kernel
theorem d_Law_law_474 : decode b_Law_law 474 = .ok (.goto 276, 3) := by decide +kernel
theorem d_Law_law_477 : decode b_Law_law 477 = .ok (.aload_n 1, 1) := by decide +kernel
theorem d_Law_law_478 : decode b_Law_law 478 = .ok (.aload_n 0, 1) := by decide +kernel
theorem d_Law_law_479 : decode b_Law_law 479 = .ok (.iload 4, 2) := by decide +kernel
theorem d_Law_law_481 : decode b_Law_law 481 = .ok (.iconst 1, 1) := by decide +kernel
theorem d_Law_law_482 : decode b_Law_law 482 = .ok (.iadd, 1) := by decide +kernel
theorem d_Law_law_483 : decode b_Law_law 483 = .ok (.iaload, 1) := by decide +kernel
theorem d_Law_law_484 : decode b_Law_law 484 = .ok (.aload_n 0, 1) := by decide +kernel
theorem d_Law_law_485 : decode b_Law_law 485 = .ok (.iload 4, 2) := by decide +kernel
theorem d_Law_law_487 : decode b_Law_law 487 = .ok (.iconst 2, 1) := by decide +kernel
theorem d_Law_law_488 : decode b_Law_law 488 = .ok (.iadd, 1) := by decide +kernel
theorem d_Law_law_489 : decode b_Law_law 489 = .ok (.iaload, 1) := by decide +kernel
theorem d_Law_law_490 : decode b_Law_law 490 = .ok (.aload_n 3, 1) := by decide +kernel
theorem d_Law_law_491 : decode b_Law_law 491 = .ok (.invokestatic 107, 3) := by decide +kernel
theorem d_Law_law_494 : decode b_Law_law 494 = .ok (.istore 5, 2) := by decide +kernel
theorem d_Law_law_496 : decode b_Law_law 496 = .ok (.aload_n 2, 1) := by decide +kernel
theorem d_Law_law_497 : decode b_Law_law 497 = .ok (.aload_n 0, 1) := by decide +kernel
theorem d_Law_law_498 : decode b_Law_law 498 = .ok (.iload 4, 2) := by decide +kernel
theorem d_Law_law_500 : decode b_Law_law 500 = .ok (.iconst 1, 1) := by decide +kernel
theorem d_Law_law_501 : decode b_Law_law 501 = .ok (.iadd, 1) := by decide +kernel
theorem d_Law_law_502 : decode b_Law_law 502 = .ok (.iaload, 1) := by decide +kernel
theorem d_Law_law_503 : decode b_Law_law 503 = .ok (.aload_n 0, 1) := by decide +kernel
theorem d_Law_law_504 : decode b_Law_law 504 = .ok (.iload 4, 2) := by decide +kernel
theorem d_Law_law_506 : decode b_Law_law 506 = .ok (.iconst 2, 1) := by decide +kernel
theorem d_Law_law_507 : decode b_Law_law 507 = .ok (.iadd, 1) := by decide +kernel
theorem d_Law_law_508 : decode b_Law_law 508 = .ok (.iaload, 1) := by decide +kernel
theorem d_Law_law_509 : decode b_Law_law 509 = .ok (.invokevirtual 109, 3) := by decide +kernel
theorem d_Law_law_512 : decode b_Law_law 512 = .ok (.istore 6, 2) := by decide +kernel
theorem d_Law_law_514 : decode b_Law_law 514 = .ok (.goto 236, 3) := by decide +kernel
theorem d_Law_law_517 : decode b_Law_law 517 = .ok (.aload_n 1, 1) := by decide +kernel
theorem d_Law_law_518 : decode b_Law_law 518 = .ok (.aload_n 0, 1) := by decide +kernel
theorem d_Law_law_519 : decode b_Law_law 519 = .ok (.iload 4, 2) := by decide +kernel
theorem d_Law_law_521 : decode b_Law_law 521 = .ok (.iconst 1, 1) := by decide +kernel
theorem d_Law_law_522 : decode b_Law_law 522 = .ok (.iadd, 1) := by decide +kernel
theorem d_Law_law_523 : decode b_Law_law 523 = .ok (.iaload, 1) := by decide +kernel
theorem d_Law_law_524 : decode b_Law_law 524 = .ok (.aload_n 0, 1) := by decide +kernel
theorem d_Law_law_525 : decode b_Law_law 525 = .ok (.iload 4, 2) := by decide +kernel
theorem d_Law_law_527 : decode b_Law_law 527 = .ok (.iconst 2, 1) := by decide +kernel
theorem d_Law_law_528 : decode b_Law_law 528 = .ok (.iadd, 1) := by decide +kernel
theorem d_Law_law_529 : decode b_Law_law 529 = .ok (.iaload, 1) := by decide +kernel
theorem d_Law_law_530 : decode b_Law_law 530 = .ok (.aload_n 3, 1) := by decide +kernel
theorem d_Law_law_531 : decode b_Law_law 531 = .ok (.invokestatic 110, 3) := by decide +kernel
theorem d_Law_law_534 : decode b_Law_law 534 = .ok (.istore 5, 2) := by decide +kernel
theorem d_Law_law_536 : decode b_Law_law 536 = .ok (.aload_n 2, 1) := by decide +kernel
theorem d_Law_law_537 : decode b_Law_law 537 = .ok (.aload_n 0, 1) := by decide +kernel
theorem d_Law_law_538 : decode b_Law_law 538 = .ok (.iload 4, 2) := by decide +kernel
theorem d_Law_law_540 : decode b_Law_law 540 = .ok (.iconst 1, 1) := by decide +kernel
theorem d_Law_law_541 : decode b_Law_law 541 = .ok (.iadd, 1) := by decide +kernel
theorem d_Law_law_542 : decode b_Law_law 542 = .ok (.iaload, 1) := by decide +kernel
