/-! ===== the law, decoded ===== -/
theorem dLA_540 : decode code 540 = .ok (.iconst 2, 1) := by decide +kernel
theorem dLA_541 : decode code 541 = .ok (.iadd, 1) := by decide +kernel
theorem dLA_542 : decode code 542 = .ok (.iaload, 1) := by decide +kernel
theorem dLA_543 : decode code 543 = .ok (.invokevirtual 77, 3) := by decide +kernel
theorem dLA_546 : decode code 546 = .ok (.if_icmp .eq 41, 3) := by decide +kernel
theorem dLA_549 : decode code 549 = .ok (.iconst 0, 1) := by decide +kernel
theorem dLA_550 : decode code 550 = .ok (.ireturn, 1) := by decide +kernel
theorem dLA_551 : decode code 551 = .ok (.aload_n 1, 1) := by decide +kernel
theorem dLA_552 : decode code 552 = .ok (.invokevirtual 78, 3) := by decide +kernel
theorem dLA_555 : decode code 555 = .ok (.aload_n 2, 1) := by decide +kernel
theorem dLA_556 : decode code 556 = .ok (.invokevirtual 81, 3) := by decide +kernel
theorem dLA_559 : decode code 559 = .ok (.if_icmp .eq 28, 3) := by decide +kernel
theorem dLA_562 : decode code 562 = .ok (.iconst 0, 1) := by decide +kernel
theorem dLA_563 : decode code 563 = .ok (.ireturn, 1) := by decide +kernel
theorem dLA_564 : decode code 564 = .ok (.aload_n 1, 1) := by decide +kernel
theorem dLA_565 : decode code 565 = .ok (.aload_n 0, 1) := by decide +kernel
theorem dLA_566 : decode code 566 = .ok (.iload_n 3, 1) := by decide +kernel
theorem dLA_567 : decode code 567 = .ok (.iconst 1, 1) := by decide +kernel
theorem dLA_568 : decode code 568 = .ok (.iadd, 1) := by decide +kernel
theorem dLA_569 : decode code 569 = .ok (.iaload, 1) := by decide +kernel
theorem dLA_570 : decode code 570 = .ok (.invokevirtual 82, 3) := by decide +kernel
theorem dLA_573 : decode code 573 = .ok (.aload_n 2, 1) := by decide +kernel
theorem dLA_574 : decode code 574 = .ok (.aload_n 0, 1) := by decide +kernel
theorem dLA_575 : decode code 575 = .ok (.iload_n 3, 1) := by decide +kernel
theorem dLA_576 : decode code 576 = .ok (.iconst 1, 1) := by decide +kernel
theorem dLA_577 : decode code 577 = .ok (.iadd, 1) := by decide +kernel
theorem dLA_578 : decode code 578 = .ok (.iaload, 1) := by decide +kernel
theorem dLA_579 : decode code 579 = .ok (.invokevirtual 85, 3) := by decide +kernel
theorem dLA_582 : decode code 582 = .ok (.if_icmp .eq 5, 3) := by decide +kernel
theorem dLA_585 : decode code 585 = .ok (.iconst 0, 1) := by decide +kernel
theorem dLA_586 : decode code 586 = .ok (.ireturn, 1) := by decide +kernel
theorem dLA_587 : decode code 587 = .ok (.iinc 3 5, 3) := by decide +kernel
theorem dLA_590 : decode code 590 = .ok (.goto (-572), 3) := by decide +kernel
theorem dLA_593 : decode code 593 = .ok (.iconst 1, 1) := by decide +kernel
theorem dLA_594 : decode code 594 = .ok (.ireturn, 1) := by decide +kernel
