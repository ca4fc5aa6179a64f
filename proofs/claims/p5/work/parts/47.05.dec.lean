/-! THE LAW: decode rows -/
theorem d_Law_law_402 : decode b_Law_law 402 = .ok (.iadd, 1) := by decide +kernel
theorem d_Law_law_403 : decode b_Law_law 403 = .ok (.iaload, 1) := by decide +kernel
theorem d_Law_law_404 : decode b_Law_law 404 = .ok (.aload_n 0, 1) := by decide +kernel
theorem d_Law_law_405 : decode b_Law_law 405 = .ok (.iload 4, 2) := by decide +kernel
theorem d_Law_law_407 : decode b_Law_law 407 = .ok (.iconst 2, 1) := by decide +kernel
theorem d_Law_law_408 : decode b_Law_law 408 = .ok (.iadd, 1) := by decide +kernel
theorem d_Law_law_409 : decode b_Law_law 409 = .ok (.iaload, 1) := by decide +kernel
theorem d_Law_law_410 : decode b_Law_law 410 = .ok (.aload_n 0, 1) := by decide +kernel
theorem d_Law_law_411 : decode b_Law_law 411 = .ok (.iload 4, 2) := by decide +kernel
theorem d_Law_law_413 : decode b_Law_law 413 = .ok (.iconst 3, 1) := by decide +kernel
theorem d_Law_law_414 : decode b_Law_law 414 = .ok (.iadd, 1) := by decide +kernel
theorem d_Law_law_415 : decode b_Law_law 415 = .ok (.iaload, 1) := by decide +kernel
theorem d_Law_law_416 : decode b_Law_law 416 = .ok (.aload_n 3, 1) := by decide +kernel
theorem d_Law_law_417 : decode b_Law_law 417 = .ok (.invokestatic 100, 3) := by decide +kernel
theorem d_Law_law_420 : decode b_Law_law 420 = .ok (.istore 5, 2) := by decide +kernel
theorem d_Law_law_422 : decode b_Law_law 422 = .ok (.aload_n 2, 1) := by decide +kernel
theorem d_Law_law_423 : decode b_Law_law 423 = .ok (.aload_n 0, 1) := by decide +kernel
theorem d_Law_law_424 : decode b_Law_law 424 = .ok (.iload 4, 2) := by decide +kernel
theorem d_Law_law_426 : decode b_Law_law 426 = .ok (.iconst 1, 1) := by decide +kernel
theorem d_Law_law_427 : decode b_Law_law 427 = .ok (.iadd, 1) := by decide +kernel
theorem d_Law_law_428 : decode b_Law_law 428 = .ok (.iaload, 1) := by decide +kernel
theorem d_Law_law_429 : decode b_Law_law 429 = .ok (.aload_n 0, 1) := by decide +kernel
theorem d_Law_law_430 : decode b_Law_law 430 = .ok (.iload 4, 2) := by decide +kernel
theorem d_Law_law_432 : decode b_Law_law 432 = .ok (.iconst 2, 1) := by decide +kernel
theorem d_Law_law_433 : decode b_Law_law 433 = .ok (.iadd, 1) := by decide +kernel
theorem d_Law_law_434 : decode b_Law_law 434 = .ok (.iaload, 1) := by decide +kernel
theorem d_Law_law_435 : decode b_Law_law 435 = .ok (.aload_n 0, 1) := by decide +kernel
theorem d_Law_law_436 : decode b_Law_law 436 = .ok (.iload 4, 2) := by decide +kernel
theorem d_Law_law_438 : decode b_Law_law 438 = .ok (.iconst 3, 1) := by decide +kernel
theorem d_Law_law_439 : decode b_Law_law 439 = .ok (.iadd, 1) := by decide +kernel
theorem d_Law_law_440 : decode b_Law_law 440 = .ok (.iaload, 1) := by decide +kernel
theorem d_Law_law_441 : decode b_Law_law 441 = .ok (.invokevirtual 103, 3) := by decide +kernel
theorem d_Law_law_444 : decode b_Law_law 444 = .ok (.lstore 6, 2) := by decide +kernel
theorem d_Law_law_446 : decode b_Law_law 446 = .ok (.goto 304, 3) := by decide +kernel
theorem d_Law_law_449 : decode b_Law_law 449 = .ok (.aload_n 1, 1) := by decide +kernel
theorem d_Law_law_450 : decode b_Law_law 450 = .ok (.aload_n 0, 1) := by decide +kernel
theorem d_Law_law_451 : decode b_Law_law 451 = .ok (.iload 4, 2) := by decide +kernel
theorem d_Law_law_453 : decode b_Law_law 453 = .ok (.iconst 1, 1) := by decide +kernel
theorem d_Law_law_454 : decode b_Law_law 454 = .ok (.iadd, 1) := by decide +kernel
theorem d_Law_law_455 : decode b_Law_law 455 = .ok (.iaload, 1) := by decide +kernel
theorem d_Law_law_456 : decode b_Law_law 456 = .ok (.aload_n 3, 1) := by decide +kernel
theorem d_Law_law_457 : decode b_Law_law 457 = .ok (.invokestatic 104, 3) := by decide +kernel
theorem d_Law_law_460 : decode b_Law_law 460 = .ok (.istore 5, 2) := by decide +kernel
theorem d_Law_law_462 : decode b_Law_law 462 = .ok (.aload_n 2, 1) := by decide +kernel
theorem d_Law_law_463 : decode b_Law_law 463 = .ok (.aload_n 0, 1) := by decide +kernel
theorem d_Law_law_464 : decode b_Law_law 464 = .ok (.iload 4, 2) := by decide +kernel
theorem d_Law_law_466 : decode b_Law_law 466 = .ok (.iconst 1, 1) := by decide +kernel
theorem d_Law_law_467 : decode b_Law_law 467 = .ok (.iadd, 1) := by decide +kernel
theorem d_Law_law_468 : decode b_Law_law 468 = .ok (.iaload, 1) := by decide +kernel
theorem d_Law_law_469 : decode b_Law_law 469 = .ok (.invokevirtual 106, 3) := by decide +kernel
