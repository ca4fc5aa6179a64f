/-! THE LAW: decode rows -/
theorem d_Law_law_393 : decode b_Law_law 393 = .ok (.iaload, 1) := by decide +kernel
theorem d_Law_law_394 : decode b_Law_law 394 = .ok (.aload_n 0, 1) := by decide +kernel
theorem d_Law_law_395 : decode b_Law_law 395 = .ok (.iload 4, 2) := by decide +kernel
theorem d_Law_law_397 : decode b_Law_law 397 = .ok (.iconst 2, 1) := by decide +kernel
theorem d_Law_law_398 : decode b_Law_law 398 = .ok (.iadd, 1) := by decide +kernel
theorem d_Law_law_399 : decode b_Law_law 399 = .ok (.iaload, 1) := by decide +kernel
theorem d_Law_law_400 : decode b_Law_law 400 = .ok (.aload_n 0, 1) := by decide +kernel
theorem d_Law_law_401 : decode b_Law_law 401 = .ok (.iload 4, 2) := by decide +kernel
theorem d_Law_law_403 : decode b_Law_law 403 = .ok (.iconst 3, 1) := by decide +kernel
theorem d_Law_law_404 : decode b_Law_law 404 = .ok (.iadd, 1) := by decide +kernel
theorem d_Law_law_405 : decode b_Law_law 405 = .ok (.iaload, 1) := by decide +kernel
theorem d_Law_law_406 : decode b_Law_law 406 = .ok (.invokevirtual 100, 3) := by decide +kernel
theorem d_Law_law_409 : decode b_Law_law 409 = .ok (.lstore 6, 2) := by decide +kernel
theorem d_Law_law_411 : decode b_Law_law 411 = .ok (.goto 304, 3) := by decide +kernel
theorem d_Law_law_414 : decode b_Law_law 414 = .ok (.aload_n 1, 1) := by decide +kernel
theorem d_Law_law_415 : decode b_Law_law 415 = .ok (.aload_n 0, 1) := by decide +kernel
theorem d_Law_law_416 : decode b_Law_law 416 = .ok (.iload 4, 2) := by decide +kernel
theorem d_Law_law_418 : decode b_Law_law 418 = .ok (.iconst 1, 1) := by decide +kernel
theorem d_Law_law_419 : decode b_Law_law 419 = .ok (.iadd, 1) := by decide +kernel
theorem d_Law_law_420 : decode b_Law_law 420 = .ok (.iaload, 1) := by decide +kernel
theorem d_Law_law_421 : decode b_Law_law 421 = .ok (.aload_n 3, 1) := by decide +kernel
theorem d_Law_law_422 : decode b_Law_law 422 = .ok (.invokestatic 101, 3) := by decide +kernel
theorem d_Law_law_425 : decode b_Law_law 425 = .ok (.istore 5, 2) := by decide +kernel
theorem d_Law_law_427 : decode b_Law_law 427 = .ok (.aload_n 2, 1) := by decide +kernel
theorem d_Law_law_428 : decode b_Law_law 428 = .ok (.aload_n 0, 1) := by decide +kernel
theorem d_Law_law_429 : decode b_Law_law 429 = .ok (.iload 4, 2) := by decide +kernel
theorem d_Law_law_431 : decode b_Law_law 431 = .ok (.iconst 1, 1) := by decide +kernel
theorem d_Law_law_432 : decode b_Law_law 432 = .ok (.iadd, 1) := by decide +kernel
theorem d_Law_law_433 : decode b_Law_law 433 = .ok (.iaload, 1) := by decide +kernel
theorem d_Law_law_434 : decode b_Law_law 434 = .ok (.invokevirtual 103, 3) := by decide +kernel
theorem d_Law_law_437 : decode b_Law_law 437 = .ok (.istore 6, 2) := by decide +kernel
theorem d_Law_law_439 : decode b_Law_law 439 = .ok (.goto 276, 3) := by decide +kernel
theorem d_Law_law_442 : decode b_Law_law 442 = .ok (.aload_n 1, 1) := by decide +kernel
theorem d_Law_law_443 : decode b_Law_law 443 = .ok (.aload_n 0, 1) := by decide +kernel
theorem d_Law_law_444 : decode b_Law_law 444 = .ok (.iload 4, 2) := by decide +kernel
theorem d_Law_law_446 : decode b_Law_law 446 = .ok (.iconst 1, 1) := by decide +kernel
theorem d_Law_law_447 : decode b_Law_law 447 = .ok (.iadd, 1) := by decide +kernel
theorem d_Law_law_448 : decode b_Law_law 448 = .ok (.iaload, 1) := by decide +kernel
theorem d_Law_law_449 : decode b_Law_law 449 = .ok (.aload_n 0, 1) := by decide +kernel
theorem d_Law_law_450 : decode b_Law_law 450 = .ok (.iload 4, 2) := by decide +kernel
theorem d_Law_law_452 : decode b_Law_law 452 = .ok (.iconst 2, 1) := by decide +kernel
theorem d_Law_law_453 : decode b_Law_law 453 = .ok (.iadd, 1) := by decide +kernel
theorem d_Law_law_454 : decode b_Law_law 454 = .ok (.iaload, 1) := by decide +kernel
theorem d_Law_law_455 : decode b_Law_law 455 = .ok (.aload_n 3, 1) := by decide +kernel
theorem d_Law_law_456 : decode b_Law_law 456 = .ok (.invokestatic 104, 3) := by decide +kernel
theorem d_Law_law_459 : decode b_Law_law 459 = .ok (.istore 5, 2) := by decide +kernel
theorem d_Law_law_461 : decode b_Law_law 461 = .ok (.aload_n 2, 1) := by decide +kernel
theorem d_Law_law_462 : decode b_Law_law 462 = .ok (.aload_n 0, 1) := by decide +kernel
theorem d_Law_law_463 : decode b_Law_law 463 = .ok (.iload 4, 2) := by decide +kernel
theorem d_Law_law_465 : decode b_Law_law 465 = .ok (.iconst 1, 1) := by decide +kernel
