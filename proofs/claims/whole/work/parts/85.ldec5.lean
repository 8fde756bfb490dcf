/-! Rows of the law. -/
theorem d_LW_law_426 : decode code 426 = .ok (.iadd, 1) := by decide +kernel
theorem d_LW_law_427 : decode code 427 = .ok (.iaload, 1) := by decide +kernel
theorem d_LW_law_428 : decode code 428 = .ok (.aload_n 0, 1) := by decide +kernel
theorem d_LW_law_429 : decode code 429 = .ok (.iload_n 3, 1) := by decide +kernel
theorem d_LW_law_430 : decode code 430 = .ok (.iconst 2, 1) := by decide +kernel
theorem d_LW_law_431 : decode code 431 = .ok (.iadd, 1) := by decide +kernel
theorem d_LW_law_432 : decode code 432 = .ok (.iaload, 1) := by decide +kernel
theorem d_LW_law_433 : decode code 433 = .ok (.aload_n 0, 1) := by decide +kernel
theorem d_LW_law_434 : decode code 434 = .ok (.iload_n 3, 1) := by decide +kernel
theorem d_LW_law_435 : decode code 435 = .ok (.iconst 3, 1) := by decide +kernel
theorem d_LW_law_436 : decode code 436 = .ok (.iadd, 1) := by decide +kernel
theorem d_LW_law_437 : decode code 437 = .ok (.iaload, 1) := by decide +kernel
theorem d_LW_law_438 : decode code 438 = .ok (.invokevirtual 73, 3) := by decide +kernel
theorem d_LW_law_441 : decode code 441 = .ok (.aload_n 2, 1) := by decide +kernel
theorem d_LW_law_442 : decode code 442 = .ok (.aload_n 0, 1) := by decide +kernel
theorem d_LW_law_443 : decode code 443 = .ok (.iload_n 3, 1) := by decide +kernel
theorem d_LW_law_444 : decode code 444 = .ok (.iconst 1, 1) := by decide +kernel
theorem d_LW_law_445 : decode code 445 = .ok (.iadd, 1) := by decide +kernel
theorem d_LW_law_446 : decode code 446 = .ok (.iaload, 1) := by decide +kernel
theorem d_LW_law_447 : decode code 447 = .ok (.aload_n 0, 1) := by decide +kernel
theorem d_LW_law_448 : decode code 448 = .ok (.iload_n 3, 1) := by decide +kernel
theorem d_LW_law_449 : decode code 449 = .ok (.iconst 2, 1) := by decide +kernel
theorem d_LW_law_450 : decode code 450 = .ok (.iadd, 1) := by decide +kernel
theorem d_LW_law_451 : decode code 451 = .ok (.iaload, 1) := by decide +kernel
theorem d_LW_law_452 : decode code 452 = .ok (.aload_n 0, 1) := by decide +kernel
theorem d_LW_law_453 : decode code 453 = .ok (.iload_n 3, 1) := by decide +kernel
theorem d_LW_law_454 : decode code 454 = .ok (.iconst 3, 1) := by decide +kernel
theorem d_LW_law_455 : decode code 455 = .ok (.iadd, 1) := by decide +kernel
theorem d_LW_law_456 : decode code 456 = .ok (.iaload, 1) := by decide +kernel
theorem d_LW_law_457 : decode code 457 = .ok (.invokevirtual 77, 3) := by decide +kernel
theorem d_LW_law_460 : decode code 460 = .ok (.if_icmp .eq 143, 3) := by decide +kernel
theorem d_LW_law_463 : decode code 463 = .ok (.iconst 0, 1) := by decide +kernel
theorem d_LW_law_464 : decode code 464 = .ok (.ireturn, 1) := by decide +kernel
theorem d_LW_law_465 : decode code 465 = .ok (.aload_n 1, 1) := by decide +kernel
theorem d_LW_law_466 : decode code 466 = .ok (.aload_n 0, 1) := by decide +kernel
theorem d_LW_law_467 : decode code 467 = .ok (.iload_n 3, 1) := by decide +kernel
theorem d_LW_law_468 : decode code 468 = .ok (.iconst 1, 1) := by decide +kernel
theorem d_LW_law_469 : decode code 469 = .ok (.iadd, 1) := by decide +kernel
theorem d_LW_law_470 : decode code 470 = .ok (.iaload, 1) := by decide +kernel
theorem d_LW_law_471 : decode code 471 = .ok (.aload_n 0, 1) := by decide +kernel
theorem d_LW_law_472 : decode code 472 = .ok (.iload_n 3, 1) := by decide +kernel
theorem d_LW_law_473 : decode code 473 = .ok (.iconst 2, 1) := by decide +kernel
theorem d_LW_law_474 : decode code 474 = .ok (.iadd, 1) := by decide +kernel
theorem d_LW_law_475 : decode code 475 = .ok (.iaload, 1) := by decide +kernel
theorem d_LW_law_476 : decode code 476 = .ok (.invokevirtual 78, 3) := by decide +kernel
theorem d_LW_law_479 : decode code 479 = .ok (.aload_n 2, 1) := by decide +kernel
theorem d_LW_law_480 : decode code 480 = .ok (.aload_n 0, 1) := by decide +kernel
theorem d_LW_law_481 : decode code 481 = .ok (.iload_n 3, 1) := by decide +kernel
theorem d_LW_law_482 : decode code 482 = .ok (.iconst 1, 1) := by decide +kernel
theorem d_LW_law_483 : decode code 483 = .ok (.iadd, 1) := by decide +kernel
theorem d_LW_law_484 : decode code 484 = .ok (.iaload, 1) := by decide +kernel
theorem d_LW_law_485 : decode code 485 = .ok (.aload_n 0, 1) := by decide +kernel
theorem d_LW_law_486 : decode code 486 = .ok (.iload_n 3, 1) := by decide +kernel
theorem d_LW_law_487 : decode code 487 = .ok (.iconst 2, 1) := by decide +kernel
theorem d_LW_law_488 : decode code 488 = .ok (.iadd, 1) := by decide +kernel
theorem d_LW_law_489 : decode code 489 = .ok (.iaload, 1) := by decide +kernel
theorem d_LW_law_490 : decode code 490 = .ok (.invokevirtual 81, 3) := by decide +kernel
theorem d_LW_law_493 : decode code 493 = .ok (.if_icmp .eq 110, 3) := by decide +kernel
theorem d_LW_law_496 : decode code 496 = .ok (.iconst 0, 1) := by decide +kernel
theorem d_LW_law_497 : decode code 497 = .ok (.ireturn, 1) := by decide +kernel
