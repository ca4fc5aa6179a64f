/-! THE LAW: decode rows -/
theorem d_Law_law_322 : decode b_Law_law 322 = .ok (.iload 6, 2) := by decide +kernel
theorem d_Law_law_324 : decode b_Law_law 324 = .ok (.ifCond .eq 7, 3) := by decide +kernel
theorem d_Law_law_327 : decode b_Law_law 327 = .ok (.lconst 1, 1) := by decide +kernel
theorem d_Law_law_328 : decode b_Law_law 328 = .ok (.goto 4, 3) := by decide +kernel
theorem d_Law_law_331 : decode b_Law_law 331 = .ok (.lconst 0, 1) := by decide +kernel
theorem d_Law_law_332 : decode b_Law_law 332 = .ok (.lcmp, 1) := by decide +kernel
theorem d_Law_law_333 : decode b_Law_law 333 = .ok (.ifCond .eq 5, 3) := by decide +kernel
theorem d_Law_law_336 : decode b_Law_law 336 = .ok (.iconst 0, 1) := by decide +kernel
theorem d_Law_law_337 : decode b_Law_law 337 = .ok (.ireturn, 1) := by decide +kernel
theorem d_Law_law_338 : decode b_Law_law 338 = .ok (.goto 412, 3) := by decide +kernel
theorem d_Law_law_341 : decode b_Law_law 341 = .ok (.aload_n 1, 1) := by decide +kernel
theorem d_Law_law_342 : decode b_Law_law 342 = .ok (.aload_n 3, 1) := by decide +kernel
theorem d_Law_law_343 : decode b_Law_law 343 = .ok (.invokestatic 92, 3) := by decide +kernel
theorem d_Law_law_346 : decode b_Law_law 346 = .ok (.istore 5, 2) := by decide +kernel
theorem d_Law_law_348 : decode b_Law_law 348 = .ok (.aload_n 2, 1) := by decide +kernel
theorem d_Law_law_349 : decode b_Law_law 349 = .ok (.invokevirtual 95, 3) := by decide +kernel
theorem d_Law_law_352 : decode b_Law_law 352 = .ok (.istore 6, 2) := by decide +kernel
theorem d_Law_law_354 : decode b_Law_law 354 = .ok (.goto 396, 3) := by decide +kernel
theorem d_Law_law_357 : decode b_Law_law 357 = .ok (.aload_n 1, 1) := by decide +kernel
theorem d_Law_law_358 : decode b_Law_law 358 = .ok (.aload_n 0, 1) := by decide +kernel
theorem d_Law_law_359 : decode b_Law_law 359 = .ok (.iload 4, 2) := by decide +kernel
theorem d_Law_law_361 : decode b_Law_law 361 = .ok (.iconst 1, 1) := by decide +kernel
theorem d_Law_law_362 : decode b_Law_law 362 = .ok (.iadd, 1) := by decide +kernel
theorem d_Law_law_363 : decode b_Law_law 363 = .ok (.iaload, 1) := by decide +kernel
theorem d_Law_law_364 : decode b_Law_law 364 = .ok (.aload_n 0, 1) := by decide +kernel
theorem d_Law_law_365 : decode b_Law_law 365 = .ok (.iload 4, 2) := by decide +kernel
theorem d_Law_law_367 : decode b_Law_law 367 = .ok (.iconst 2, 1) := by decide +kernel
theorem d_Law_law_368 : decode b_Law_law 368 = .ok (.iadd, 1) := by decide +kernel
theorem d_Law_law_369 : decode b_Law_law 369 = .ok (.iaload, 1) := by decide +kernel
theorem d_Law_law_370 : decode b_Law_law 370 = .ok (.aload_n 3, 1) := by decide +kernel
theorem d_Law_law_371 : decode b_Law_law 371 = .ok (.invokestatic 96, 3) := by decide +kernel
theorem d_Law_law_374 : decode b_Law_law 374 = .ok (.istore 5, 2) := by decide +kernel
theorem d_Law_law_376 : decode b_Law_law 376 = .ok (.aload_n 2, 1) := by decide +kernel
theorem d_Law_law_377 : decode b_Law_law 377 = .ok (.aload_n 0, 1) := by decide +kernel
theorem d_Law_law_378 : decode b_Law_law 378 = .ok (.iload 4, 2) := by decide +kernel
theorem d_Law_law_380 : decode b_Law_law 380 = .ok (.iconst 1, 1) := by decide +kernel
theorem d_Law_law_381 : decode b_Law_law 381 = .ok (.iadd, 1) := by decide +kernel
theorem d_Law_law_382 : decode b_Law_law 382 = .ok (.iaload, 1) := by decide +kernel
theorem d_Law_law_383 : decode b_Law_law 383 = .ok (.aload_n 0, 1) := by decide +kernel
theorem d_Law_law_384 : decode b_Law_law 384 = .ok (.iload 4, 2) := by decide +kernel
theorem d_Law_law_386 : decode b_Law_law 386 = .ok (.iconst 2, 1) := by decide +kernel
theorem d_Law_law_387 : decode b_Law_law 387 = .ok (.iadd, 1) := by decide +kernel
theorem d_Law_law_388 : decode b_Law_law 388 = .ok (.iaload, 1) := by decide +kernel
theorem d_Law_law_389 : decode b_Law_law 389 = .ok (.invokevirtual 99, 3) := by decide +kernel
theorem d_Law_law_392 : decode b_Law_law 392 = .ok (.istore 6, 2) := by decide +kernel
theorem d_Law_law_394 : decode b_Law_law 394 = .ok (.goto 356, 3) := by decide +kernel
theorem d_Law_law_397 : decode b_Law_law 397 = .ok (.aload_n 1, 1) := by decide +kernel
theorem d_Law_law_398 : decode b_Law_law 398 = .ok (.aload_n 0, 1) := by decide +kernel
theorem d_Law_law_399 : decode b_Law_law 399 = .ok (.iload 4, 2) := by decide +kernel
theorem d_Law_law_401 : decode b_Law_law 401 = .ok (.iconst 1, 1) := by decide +kernel
