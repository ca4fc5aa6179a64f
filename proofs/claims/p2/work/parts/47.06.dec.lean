/-! THE LAW: decode rows -/
theorem d_Law_law_466 : decode b_Law_law 466 = .ok (.iadd, 1) := by decide +kernel
theorem d_Law_law_467 : decode b_Law_law 467 = .ok (.iaload, 1) := by decide +kernel
theorem d_Law_law_468 : decode b_Law_law 468 = .ok (.aload_n 0, 1) := by decide +kernel
theorem d_Law_law_469 : decode b_Law_law 469 = .ok (.iload 4, 2) := by decide +kernel
theorem d_Law_law_471 : decode b_Law_law 471 = .ok (.iconst 2, 1) := by decide +kernel
theorem d_Law_law_472 : decode b_Law_law 472 = .ok (.iadd, 1) := by decide +kernel
theorem d_Law_law_473 : decode b_Law_law 473 = .ok (.iaload, 1) := by decide +kernel
theorem d_Law_law_474 : decode b_Law_law 474 = .ok (.invokevirtual 106, 3) := by decide +kernel
theorem d_Law_law_477 : decode b_Law_law 477 = .ok (.istore 6, 2) := by decide +kernel
theorem d_Law_law_479 : decode b_Law_law 479 = .ok (.goto 236, 3) := by decide +kernel
theorem d_Law_law_482 : decode b_Law_law 482 = .ok (.aload_n 1, 1) := by decide +kernel
theorem d_Law_law_483 : decode b_Law_law 483 = .ok (.aload_n 0, 1) := by decide +kernel
theorem d_Law_law_484 : decode b_Law_law 484 = .ok (.iload 4, 2) := by decide +kernel
theorem d_Law_law_486 : decode b_Law_law 486 = .ok (.iconst 1, 1) := by decide +kernel
theorem d_Law_law_487 : decode b_Law_law 487 = .ok (.iadd, 1) := by decide +kernel
theorem d_Law_law_488 : decode b_Law_law 488 = .ok (.iaload, 1) := by decide +kernel
theorem d_Law_law_489 : decode b_Law_law 489 = .ok (.aload_n 0, 1) := by decide +kernel
theorem d_Law_law_490 : decode b_Law_law 490 = .ok (.iload 4, 2) := by decide +kernel
theorem d_Law_law_492 : decode b_Law_law 492 = .ok (.iconst 2, 1) := by decide +kernel
theorem d_Law_law_493 : decode b_Law_law 493 = .ok (.iadd, 1) := by decide +kernel
theorem d_Law_law_494 : decode b_Law_law 494 = .ok (.iaload, 1) := by decide +kernel
theorem d_Law_law_495 : decode b_Law_law 495 = .ok (.aload_n 3, 1) := by decide +kernel
theorem d_Law_law_496 : decode b_Law_law 496 = .ok (.invokestatic 107, 3) := by decide +kernel
theorem d_Law_law_499 : decode b_Law_law 499 = .ok (.istore 5, 2) := by decide +kernel
theorem d_Law_law_501 : decode b_Law_law 501 = .ok (.aload_n 2, 1) := by decide +kernel
theorem d_Law_law_502 : decode b_Law_law 502 = .ok (.aload_n 0, 1) := by decide +kernel
theorem d_Law_law_503 : decode b_Law_law 503 = .ok (.iload 4, 2) := by decide +kernel
theorem d_Law_law_505 : decode b_Law_law 505 = .ok (.iconst 1, 1) := by decide +kernel
theorem d_Law_law_506 : decode b_Law_law 506 = .ok (.iadd, 1) := by decide +kernel
theorem d_Law_law_507 : decode b_Law_law 507 = .ok (.iaload, 1) := by decide +kernel
theorem d_Law_law_508 : decode b_Law_law 508 = .ok (.aload_n 0, 1) := by decide +kernel
theorem d_Law_law_509 : decode b_Law_law 509 = .ok (.iload 4, 2) := by decide +kernel
theorem d_Law_law_511 : decode b_Law_law 511 = .ok (.iconst 2, 1) := by decide +kernel
theorem d_Law_law_512 : decode b_Law_law 512 = .ok (.iadd, 1) := by decide +kernel
theorem d_Law_law_513 : decode b_Law_law 513 = .ok (.iaload, 1) := by decide +kernel
theorem d_Law_law_514 : decode b_Law_law 514 = .ok (.invokevirtual 109, 3) := by decide +kernel
theorem d_Law_law_517 : decode b_Law_law 517 = .ok (.istore 6, 2) := by decide +kernel
theorem d_Law_law_519 : decode b_Law_law 519 = .ok (.goto 196, 3) := by decide +kernel
theorem d_Law_law_522 : decode b_Law_law 522 = .ok (.aload_n 1, 1) := by decide +kernel
theorem d_Law_law_523 : decode b_Law_law 523 = .ok (.aload_n 0, 1) := by decide +kernel
theorem d_Law_law_524 : decode b_Law_law 524 = .ok (.iload 4, 2) := by decide +kernel
theorem d_Law_law_526 : decode b_Law_law 526 = .ok (.iconst 1, 1) := by decide +kernel
theorem d_Law_law_527 : decode b_Law_law 527 = .ok (.iadd, 1) := by decide +kernel
theorem d_Law_law_528 : decode b_Law_law 528 = .ok (.iaload, 1) := by decide +kernel
theorem d_Law_law_529 : decode b_Law_law 529 = .ok (.aload_n 0, 1) := by decide +kernel
theorem d_Law_law_530 : decode b_Law_law 530 = .ok (.iload 4, 2) := by decide +kernel
theorem d_Law_law_532 : decode b_Law_law 532 = .ok (.iconst 2, 1) := by decide +kernel
theorem d_Law_law_533 : decode b_Law_law 533 = .ok (.iadd, 1) := by decide +kernel
theorem d_Law_law_534 : decode b_Law_law 534 = .ok (.iaload, 1) := by decide +kernel
theorem d_Law_law_535 : decode b_Law_law 535 = .ok (.aload_n 3, 1) := by decide +kernel
