/-! THE LAW: decode rows -/
theorem d_Law_law_324 : decode b_Law_law 324 = .ok (.iload 4, 2) := by decide +kernel
theorem d_Law_law_326 : decode b_Law_law 326 = .ok (.iconst 1, 1) := by decide +kernel
theorem d_Law_law_327 : decode b_Law_law 327 = .ok (.iadd, 1) := by decide +kernel
theorem d_Law_law_328 : decode b_Law_law 328 = .ok (.iaload, 1) := by decide +kernel
theorem d_Law_law_329 : decode b_Law_law 329 = .ok (.aload_n 0, 1) := by decide +kernel
theorem d_Law_law_330 : decode b_Law_law 330 = .ok (.iload 4, 2) := by decide +kernel
theorem d_Law_law_332 : decode b_Law_law 332 = .ok (.iconst 2, 1) := by decide +kernel
theorem d_Law_law_333 : decode b_Law_law 333 = .ok (.iadd, 1) := by decide +kernel
theorem d_Law_law_334 : decode b_Law_law 334 = .ok (.iaload, 1) := by decide +kernel
theorem d_Law_law_335 : decode b_Law_law 335 = .ok (.aload_n 3, 1) := by decide +kernel
theorem d_Law_law_336 : decode b_Law_law 336 = .ok (.invokestatic 93, 3) := by decide +kernel
theorem d_Law_law_339 : decode b_Law_law 339 = .ok (.istore 5, 2) := by decide +kernel
theorem d_Law_law_341 : decode b_Law_law 341 = .ok (.aload_n 2, 1) := by decide +kernel
theorem d_Law_law_342 : decode b_Law_law 342 = .ok (.aload_n 0, 1) := by decide +kernel
theorem d_Law_law_343 : decode b_Law_law 343 = .ok (.iload 4, 2) := by decide +kernel
theorem d_Law_law_345 : decode b_Law_law 345 = .ok (.iconst 1, 1) := by decide +kernel
theorem d_Law_law_346 : decode b_Law_law 346 = .ok (.iadd, 1) := by decide +kernel
theorem d_Law_law_347 : decode b_Law_law 347 = .ok (.iaload, 1) := by decide +kernel
theorem d_Law_law_348 : decode b_Law_law 348 = .ok (.aload_n 0, 1) := by decide +kernel
theorem d_Law_law_349 : decode b_Law_law 349 = .ok (.iload 4, 2) := by decide +kernel
theorem d_Law_law_351 : decode b_Law_law 351 = .ok (.iconst 2, 1) := by decide +kernel
theorem d_Law_law_352 : decode b_Law_law 352 = .ok (.iadd, 1) := by decide +kernel
theorem d_Law_law_353 : decode b_Law_law 353 = .ok (.iaload, 1) := by decide +kernel
theorem d_Law_law_354 : decode b_Law_law 354 = .ok (.invokevirtual 96, 3) := by decide +kernel
theorem d_Law_law_357 : decode b_Law_law 357 = .ok (.istore 6, 2) := by decide +kernel
theorem d_Law_law_359 : decode b_Law_law 359 = .ok (.goto 356, 3) := by decide +kernel
theorem d_Law_law_362 : decode b_Law_law 362 = .ok (.aload_n 1, 1) := by decide +kernel
theorem d_Law_law_363 : decode b_Law_law 363 = .ok (.aload_n 0, 1) := by decide +kernel
theorem d_Law_law_364 : decode b_Law_law 364 = .ok (.iload 4, 2) := by decide +kernel
theorem d_Law_law_366 : decode b_Law_law 366 = .ok (.iconst 1, 1) := by decide +kernel
theorem d_Law_law_367 : decode b_Law_law 367 = .ok (.iadd, 1) := by decide +kernel
theorem d_Law_law_368 : decode b_Law_law 368 = .ok (.iaload, 1) := by decide +kernel
theorem d_Law_law_369 : decode b_Law_law 369 = .ok (.aload_n 0, 1) := by decide +kernel
theorem d_Law_law_370 : decode b_Law_law 370 = .ok (.iload 4, 2) := by decide +kernel
theorem d_Law_law_372 : decode b_Law_law 372 = .ok (.iconst 2, 1) := by decide +kernel
theorem d_Law_law_373 : decode b_Law_law 373 = .ok (.iadd, 1) := by decide +kernel
theorem d_Law_law_374 : decode b_Law_law 374 = .ok (.iaload, 1) := by decide +kernel
theorem d_Law_law_375 : decode b_Law_law 375 = .ok (.aload_n 0, 1) := by decide +kernel
theorem d_Law_law_376 : decode b_Law_law 376 = .ok (.iload 4, 2) := by decide +kernel
theorem d_Law_law_378 : decode b_Law_law 378 = .ok (.iconst 3, 1) := by decide +kernel
theorem d_Law_law_379 : decode b_Law_law 379 = .ok (.iadd, 1) := by decide +kernel
theorem d_Law_law_380 : decode b_Law_law 380 = .ok (.iaload, 1) := by decide +kernel
theorem d_Law_law_381 : decode b_Law_law 381 = .ok (.aload_n 3, 1) := by decide +kernel
theorem d_Law_law_382 : decode b_Law_law 382 = .ok (.invokestatic 97, 3) := by decide +kernel
theorem d_Law_law_385 : decode b_Law_law 385 = .ok (.istore 5, 2) := by decide +kernel
theorem d_Law_law_387 : decode b_Law_law 387 = .ok (.aload_n 2, 1) := by decide +kernel
theorem d_Law_law_388 : decode b_Law_law 388 = .ok (.aload_n 0, 1) := by decide +kernel
theorem d_Law_law_389 : decode b_Law_law 389 = .ok (.iload 4, 2) := by decide +kernel
theorem d_Law_law_391 : decode b_Law_law 391 = .ok (.iconst 1, 1) := by decide +kernel
theorem d_Law_law_392 : decode b_Law_law 392 = .ok (.iadd, 1) := by decide +kernel
