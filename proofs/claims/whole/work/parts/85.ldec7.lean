/-! Rows of the law. -/
theorem d_LW_law_582 : decode code 582 = .ok (.iload_n 3, 1) := by decide +kernel
theorem d_LW_law_583 : decode code 583 = .ok (.iconst 1, 1) := by decide +kernel
theorem d_LW_law_584 : decode code 584 = .ok (.iadd, 1) := by decide +kernel
theorem d_LW_law_585 : decode code 585 = .ok (.iaload, 1) := by decide +kernel
theorem d_LW_law_586 : decode code 586 = .ok (.invokevirtual 98, 3) := by decide +kernel
theorem d_LW_law_589 : decode code 589 = .ok (.aload_n 2, 1) := by decide +kernel
theorem d_LW_law_590 : decode code 590 = .ok (.aload_n 0, 1) := by decide +kernel
theorem d_LW_law_591 : decode code 591 = .ok (.iload_n 3, 1) := by decide +kernel
theorem d_LW_law_592 : decode code 592 = .ok (.iconst 1, 1) := by decide +kernel
theorem d_LW_law_593 : decode code 593 = .ok (.iadd, 1) := by decide +kernel
theorem d_LW_law_594 : decode code 594 = .ok (.iaload, 1) := by decide +kernel
theorem d_LW_law_595 : decode code 595 = .ok (.invokevirtual 101, 3) := by decide +kernel
theorem d_LW_law_598 : decode code 598 = .ok (.if_icmp .eq 5, 3) := by decide +kernel
theorem d_LW_law_601 : decode code 601 = .ok (.iconst 0, 1) := by decide +kernel
theorem d_LW_law_602 : decode code 602 = .ok (.ireturn, 1) := by decide +kernel
theorem d_LW_law_603 : decode code 603 = .ok (.iinc 3 5, 3) := by decide +kernel
theorem d_LW_law_606 : decode code 606 = .ok (.goto (-556), 3) := by decide +kernel
theorem d_LW_law_609 : decode code 609 = .ok (.iconst 1, 1) := by decide +kernel
theorem d_LW_law_610 : decode code 610 = .ok (.ireturn, 1) := by decide +kernel
