/-! Rows of the law. -/
theorem d_LW_law_498 : decode code 498 = .ok (.aload_n 1, 1) := by decide +kernel
theorem d_LW_law_499 : decode code 499 = .ok (.invokevirtual 82, 3) := by decide +kernel
theorem d_LW_law_502 : decode code 502 = .ok (.aload_n 2, 1) := by decide +kernel
theorem d_LW_law_503 : decode code 503 = .ok (.invokevirtual 85, 3) := by decide +kernel
theorem d_LW_law_506 : decode code 506 = .ok (.if_icmp .eq 97, 3) := by decide +kernel
theorem d_LW_law_509 : decode code 509 = .ok (.iconst 0, 1) := by decide +kernel
theorem d_LW_law_510 : decode code 510 = .ok (.ireturn, 1) := by decide +kernel
theorem d_LW_law_511 : decode code 511 = .ok (.aload_n 1, 1) := by decide +kernel
theorem d_LW_law_512 : decode code 512 = .ok (.invokevirtual 86, 3) := by decide +kernel
theorem d_LW_law_515 : decode code 515 = .ok (.aload_n 2, 1) := by decide +kernel
theorem d_LW_law_516 : decode code 516 = .ok (.invokevirtual 89, 3) := by decide +kernel
theorem d_LW_law_519 : decode code 519 = .ok (.if_icmp .eq 84, 3) := by decide +kernel
theorem d_LW_law_522 : decode code 522 = .ok (.iconst 0, 1) := by decide +kernel
theorem d_LW_law_523 : decode code 523 = .ok (.ireturn, 1) := by decide +kernel
theorem d_LW_law_524 : decode code 524 = .ok (.aload_n 1, 1) := by decide +kernel
theorem d_LW_law_525 : decode code 525 = .ok (.aload_n 0, 1) := by decide +kernel
theorem d_LW_law_526 : decode code 526 = .ok (.iload_n 3, 1) := by decide +kernel
theorem d_LW_law_527 : decode code 527 = .ok (.iconst 1, 1) := by decide +kernel
theorem d_LW_law_528 : decode code 528 = .ok (.iadd, 1) := by decide +kernel
theorem d_LW_law_529 : decode code 529 = .ok (.iaload, 1) := by decide +kernel
theorem d_LW_law_530 : decode code 530 = .ok (.aload_n 0, 1) := by decide +kernel
theorem d_LW_law_531 : decode code 531 = .ok (.iload_n 3, 1) := by decide +kernel
theorem d_LW_law_532 : decode code 532 = .ok (.iconst 2, 1) := by decide +kernel
theorem d_LW_law_533 : decode code 533 = .ok (.iadd, 1) := by decide +kernel
theorem d_LW_law_534 : decode code 534 = .ok (.iaload, 1) := by decide +kernel
theorem d_LW_law_535 : decode code 535 = .ok (.invokevirtual 90, 3) := by decide +kernel
theorem d_LW_law_538 : decode code 538 = .ok (.aload_n 2, 1) := by decide +kernel
theorem d_LW_law_539 : decode code 539 = .ok (.aload_n 0, 1) := by decide +kernel
theorem d_LW_law_540 : decode code 540 = .ok (.iload_n 3, 1) := by decide +kernel
theorem d_LW_law_541 : decode code 541 = .ok (.iconst 1, 1) := by decide +kernel
theorem d_LW_law_542 : decode code 542 = .ok (.iadd, 1) := by decide +kernel
theorem d_LW_law_543 : decode code 543 = .ok (.iaload, 1) := by decide +kernel
theorem d_LW_law_544 : decode code 544 = .ok (.aload_n 0, 1) := by decide +kernel
theorem d_LW_law_545 : decode code 545 = .ok (.iload_n 3, 1) := by decide +kernel
theorem d_LW_law_546 : decode code 546 = .ok (.iconst 2, 1) := by decide +kernel
theorem d_LW_law_547 : decode code 547 = .ok (.iadd, 1) := by decide +kernel
theorem d_LW_law_548 : decode code 548 = .ok (.iaload, 1) := by decide +kernel
theorem d_LW_law_549 : decode code 549 = .ok (.invokevirtual 93, 3) := by decide +kernel
theorem d_LW_law_552 : decode code 552 = .ok (.if_icmp .eq 51, 3) := by decide +kernel
theorem d_LW_law_555 : decode code 555 = .ok (.iconst 0, 1) := by decide +kernel
theorem d_LW_law_556 : decode code 556 = .ok (.ireturn, 1) := by decide +kernel
theorem d_LW_law_557 : decode code 557 = .ok (.aload_n 1, 1) := by decide +kernel
theorem d_LW_law_558 : decode code 558 = .ok (.aload_n 0, 1) := by decide +kernel
theorem d_LW_law_559 : decode code 559 = .ok (.iload_n 3, 1) := by decide +kernel
theorem d_LW_law_560 : decode code 560 = .ok (.iconst 1, 1) := by decide +kernel
theorem d_LW_law_561 : decode code 561 = .ok (.iadd, 1) := by decide +kernel
theorem d_LW_law_562 : decode code 562 = .ok (.iaload, 1) := by decide +kernel
theorem d_LW_law_563 : decode code 563 = .ok (.invokevirtual 94, 3) := by decide +kernel
theorem d_LW_law_566 : decode code 566 = .ok (.aload_n 2, 1) := by decide +kernel
theorem d_LW_law_567 : decode code 567 = .ok (.aload_n 0, 1) := by decide +kernel
theorem d_LW_law_568 : decode code 568 = .ok (.iload_n 3, 1) := by decide +kernel
theorem d_LW_law_569 : decode code 569 = .ok (.iconst 1, 1) := by decide +kernel
theorem d_LW_law_570 : decode code 570 = .ok (.iadd, 1) := by decide +kernel
theorem d_LW_law_571 : decode code 571 = .ok (.iaload, 1) := by decide +kernel
theorem d_LW_law_572 : decode code 572 = .ok (.invokevirtual 97, 3) := by decide +kernel
theorem d_LW_law_575 : decode code 575 = .ok (.if_icmp .eq 28, 3) := by decide +kernel
theorem d_LW_law_578 : decode code 578 = .ok (.iconst 0, 1) := by decide +kernel
theorem d_LW_law_579 : decode code 579 = .ok (.ireturn, 1) := by decide +kernel
theorem d_LW_law_580 : decode code 580 = .ok (.aload_n 1, 1) := by decide +kernel
theorem d_LW_law_581 : decode code 581 = .ok (.aload_n 0, 1) := by decide +kernel
