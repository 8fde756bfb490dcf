/-! Rows of the law. -/
theorem d_LW_law_344 : decode code 344 = .ok (.iaload, 1) := by decide +kernel
theorem d_LW_law_345 : decode code 345 = .ok (.invokevirtual 60, 3) := by decide +kernel
theorem d_LW_law_348 : decode code 348 = .ok (.if_icmp .eq 255, 3) := by decide +kernel
theorem d_LW_law_351 : decode code 351 = .ok (.iconst 0, 1) := by decide +kernel
theorem d_LW_law_352 : decode code 352 = .ok (.ireturn, 1) := by decide +kernel
theorem d_LW_law_353 : decode code 353 = .ok (.aload_n 1, 1) := by decide +kernel
theorem d_LW_law_354 : decode code 354 = .ok (.aload_n 0, 1) := by decide +kernel
theorem d_LW_law_355 : decode code 355 = .ok (.iload_n 3, 1) := by decide +kernel
theorem d_LW_law_356 : decode code 356 = .ok (.iconst 1, 1) := by decide +kernel
theorem d_LW_law_357 : decode code 357 = .ok (.iadd, 1) := by decide +kernel
theorem d_LW_law_358 : decode code 358 = .ok (.iaload, 1) := by decide +kernel
theorem d_LW_law_359 : decode code 359 = .ok (.invokevirtual 61, 3) := by decide +kernel
theorem d_LW_law_362 : decode code 362 = .ok (.aload_n 2, 1) := by decide +kernel
theorem d_LW_law_363 : decode code 363 = .ok (.aload_n 0, 1) := by decide +kernel
theorem d_LW_law_364 : decode code 364 = .ok (.iload_n 3, 1) := by decide +kernel
theorem d_LW_law_365 : decode code 365 = .ok (.iconst 1, 1) := by decide +kernel
theorem d_LW_law_366 : decode code 366 = .ok (.iadd, 1) := by decide +kernel
theorem d_LW_law_367 : decode code 367 = .ok (.iaload, 1) := by decide +kernel
theorem d_LW_law_368 : decode code 368 = .ok (.invokevirtual 64, 3) := by decide +kernel
theorem d_LW_law_371 : decode code 371 = .ok (.if_icmp .eq 232, 3) := by decide +kernel
theorem d_LW_law_374 : decode code 374 = .ok (.iconst 0, 1) := by decide +kernel
theorem d_LW_law_375 : decode code 375 = .ok (.ireturn, 1) := by decide +kernel
theorem d_LW_law_376 : decode code 376 = .ok (.aload_n 1, 1) := by decide +kernel
theorem d_LW_law_377 : decode code 377 = .ok (.aload_n 0, 1) := by decide +kernel
theorem d_LW_law_378 : decode code 378 = .ok (.iload_n 3, 1) := by decide +kernel
theorem d_LW_law_379 : decode code 379 = .ok (.iconst 1, 1) := by decide +kernel
theorem d_LW_law_380 : decode code 380 = .ok (.iadd, 1) := by decide +kernel
theorem d_LW_law_381 : decode code 381 = .ok (.iaload, 1) := by decide +kernel
theorem d_LW_law_382 : decode code 382 = .ok (.aload_n 0, 1) := by decide +kernel
theorem d_LW_law_383 : decode code 383 = .ok (.iload_n 3, 1) := by decide +kernel
theorem d_LW_law_384 : decode code 384 = .ok (.iconst 2, 1) := by decide +kernel
theorem d_LW_law_385 : decode code 385 = .ok (.iadd, 1) := by decide +kernel
theorem d_LW_law_386 : decode code 386 = .ok (.iaload, 1) := by decide +kernel
theorem d_LW_law_387 : decode code 387 = .ok (.invokevirtual 65, 3) := by decide +kernel
theorem d_LW_law_390 : decode code 390 = .ok (.aload_n 2, 1) := by decide +kernel
theorem d_LW_law_391 : decode code 391 = .ok (.aload_n 0, 1) := by decide +kernel
theorem d_LW_law_392 : decode code 392 = .ok (.iload_n 3, 1) := by decide +kernel
theorem d_LW_law_393 : decode code 393 = .ok (.iconst 1, 1) := by decide +kernel
theorem d_LW_law_394 : decode code 394 = .ok (.iadd, 1) := by decide +kernel
theorem d_LW_law_395 : decode code 395 = .ok (.iaload, 1) := by decide +kernel
theorem d_LW_law_396 : decode code 396 = .ok (.aload_n 0, 1) := by decide +kernel
theorem d_LW_law_397 : decode code 397 = .ok (.iload_n 3, 1) := by decide +kernel
theorem d_LW_law_398 : decode code 398 = .ok (.iconst 2, 1) := by decide +kernel
theorem d_LW_law_399 : decode code 399 = .ok (.iadd, 1) := by decide +kernel
theorem d_LW_law_400 : decode code 400 = .ok (.iaload, 1) := by decide +kernel
theorem d_LW_law_401 : decode code 401 = .ok (.invokevirtual 68, 3) := by decide +kernel
theorem d_LW_law_404 : decode code 404 = .ok (.if_icmp .eq 199, 3) := by decide +kernel
theorem d_LW_law_407 : decode code 407 = .ok (.iconst 0, 1) := by decide +kernel
theorem d_LW_law_408 : decode code 408 = .ok (.ireturn, 1) := by decide +kernel
theorem d_LW_law_409 : decode code 409 = .ok (.aload_n 1, 1) := by decide +kernel
theorem d_LW_law_410 : decode code 410 = .ok (.invokevirtual 69, 3) := by decide +kernel
theorem d_LW_law_413 : decode code 413 = .ok (.aload_n 2, 1) := by decide +kernel
theorem d_LW_law_414 : decode code 414 = .ok (.invokevirtual 72, 3) := by decide +kernel
theorem d_LW_law_417 : decode code 417 = .ok (.if_icmp .eq 186, 3) := by decide +kernel
theorem d_LW_law_420 : decode code 420 = .ok (.iconst 0, 1) := by decide +kernel
theorem d_LW_law_421 : decode code 421 = .ok (.ireturn, 1) := by decide +kernel
theorem d_LW_law_422 : decode code 422 = .ok (.aload_n 1, 1) := by decide +kernel
theorem d_LW_law_423 : decode code 423 = .ok (.aload_n 0, 1) := by decide +kernel
theorem d_LW_law_424 : decode code 424 = .ok (.iload_n 3, 1) := by decide +kernel
theorem d_LW_law_425 : decode code 425 = .ok (.iconst 1, 1) := by decide +kernel
