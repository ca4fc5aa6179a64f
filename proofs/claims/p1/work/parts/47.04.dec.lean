/-! THE LAW: decode rows -/
theorem d_Law_law_320 : decode b_Law_law 320 = .ok (.i2l, 1) := by decide +kernel
theorem d_Law_law_321 : decode b_Law_law 321 = .ok (.ldc2_w 86, 3) := by decide +kernel
theorem d_Law_law_324 : decode b_Law_law 324 = .ok (.land, 1) := by decide +kernel
theorem d_Law_law_325 : decode b_Law_law 325 = .ok (.lor, 1) := by decide +kernel
theorem d_Law_law_326 : decode b_Law_law 326 = .ok (.invokevirtual 91, 3) := by decide +kernel
theorem d_Law_law_329 : decode b_Law_law 329 = .ok (.istore 6, 2) := by decide +kernel
theorem d_Law_law_331 : decode b_Law_law 331 = .ok (.aload_n 2, 1) := by decide +kernel
theorem d_Law_law_332 : decode b_Law_law 332 = .ok (.invokevirtual 83, 3) := by decide +kernel
theorem d_Law_law_335 : decode b_Law_law 335 = .ok (.iload 5, 2) := by decide +kernel
theorem d_Law_law_337 : decode b_Law_law 337 = .ok (.if_icmp .eq 5, 3) := by decide +kernel
theorem d_Law_law_340 : decode b_Law_law 340 = .ok (.iconst 0, 1) := by decide +kernel
theorem d_Law_law_341 : decode b_Law_law 341 = .ok (.ireturn, 1) := by decide +kernel
theorem d_Law_law_342 : decode b_Law_law 342 = .ok (.iload 5, 2) := by decide +kernel
theorem d_Law_law_344 : decode b_Law_law 344 = .ok (.ifCond .ne 22, 3) := by decide +kernel
theorem d_Law_law_347 : decode b_Law_law 347 = .ok (.aload_n 3, 1) := by decide +kernel
theorem d_Law_law_348 : decode b_Law_law 348 = .ok (.iconst 0, 1) := by decide +kernel
theorem d_Law_law_349 : decode b_Law_law 349 = .ok (.laload, 1) := by decide +kernel
theorem d_Law_law_350 : decode b_Law_law 350 = .ok (.iload 6, 2) := by decide +kernel
theorem d_Law_law_352 : decode b_Law_law 352 = .ok (.ifCond .eq 7, 3) := by decide +kernel
theorem d_Law_law_355 : decode b_Law_law 355 = .ok (.lconst 1, 1) := by decide +kernel
theorem d_Law_law_356 : decode b_Law_law 356 = .ok (.goto 4, 3) := by decide +kernel
theorem d_Law_law_359 : decode b_Law_law 359 = .ok (.lconst 0, 1) := by decide +kernel
theorem d_Law_law_360 : decode b_Law_law 360 = .ok (.lcmp, 1) := by decide +kernel
theorem d_Law_law_361 : decode b_Law_law 361 = .ok (.ifCond .eq 5, 3) := by decide +kernel
theorem d_Law_law_364 : decode b_Law_law 364 = .ok (.iconst 0, 1) := by decide +kernel
theorem d_Law_law_365 : decode b_Law_law 365 = .ok (.ireturn, 1) := by decide +kernel
theorem d_Law_law_366 : decode b_Law_law 366 = .ok (.goto 762, 3) := by decide +kernel
theorem d_Law_law_369 : decode b_Law_law 369 = .ok (.aload_n 1, 1) := by decide +kernel
theorem d_Law_law_370 : decode b_Law_law 370 = .ok (.aload_n 3, 1) := by decide +kernel
theorem d_Law_law_371 : decode b_Law_law 371 = .ok (.invokestatic 92, 3) := by decide +kernel
theorem d_Law_law_374 : decode b_Law_law 374 = .ok (.istore 5, 2) := by decide +kernel
theorem d_Law_law_376 : decode b_Law_law 376 = .ok (.aload_n 2, 1) := by decide +kernel
theorem d_Law_law_377 : decode b_Law_law 377 = .ok (.invokevirtual 95, 3) := by decide +kernel
theorem d_Law_law_380 : decode b_Law_law 380 = .ok (.istore 6, 2) := by decide +kernel
theorem d_Law_law_382 : decode b_Law_law 382 = .ok (.aload_n 2, 1) := by decide +kernel
theorem d_Law_law_383 : decode b_Law_law 383 = .ok (.invokevirtual 83, 3) := by decide +kernel
theorem d_Law_law_386 : decode b_Law_law 386 = .ok (.iload 5, 2) := by decide +kernel
theorem d_Law_law_388 : decode b_Law_law 388 = .ok (.if_icmp .eq 5, 3) := by decide +kernel
theorem d_Law_law_391 : decode b_Law_law 391 = .ok (.iconst 0, 1) := by decide +kernel
theorem d_Law_law_392 : decode b_Law_law 392 = .ok (.ireturn, 1) := by decide +kernel
theorem d_Law_law_393 : decode b_Law_law 393 = .ok (.iload 5, 2) := by decide +kernel
theorem d_Law_law_395 : decode b_Law_law 395 = .ok (.ifCond .ne 15, 3) := by decide +kernel
theorem d_Law_law_398 : decode b_Law_law 398 = .ok (.aload_n 3, 1) := by decide +kernel
theorem d_Law_law_399 : decode b_Law_law 399 = .ok (.iconst 0, 1) := by decide +kernel
theorem d_Law_law_400 : decode b_Law_law 400 = .ok (.laload, 1) := by decide +kernel
theorem d_Law_law_401 : decode b_Law_law 401 = .ok (.iload 6, 2) := by decide +kernel
theorem d_Law_law_403 : decode b_Law_law 403 = .ok (.i2l, 1) := by decide +kernel
theorem d_Law_law_404 : decode b_Law_law 404 = .ok (.lcmp, 1) := by decide +kernel
theorem d_Law_law_405 : decode b_Law_law 405 = .ok (.ifCond .eq 5, 3) := by decide +kernel
theorem d_Law_law_408 : decode b_Law_law 408 = .ok (.iconst 0, 1) := by decide +kernel
