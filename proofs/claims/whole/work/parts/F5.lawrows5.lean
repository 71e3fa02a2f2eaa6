/-! ===== the law, decoded ===== -/
theorem dLA_460 : decode code 460 = .ok (.invokevirtual 62, 3) := by decide +kernel
theorem dLA_463 : decode code 463 = .ok (.aload_n 2, 1) := by decide +kernel
theorem dLA_464 : decode code 464 = .ok (.aload_n 0, 1) := by decide +kernel
theorem dLA_465 : decode code 465 = .ok (.iload_n 3, 1) := by decide +kernel
theorem dLA_466 : decode code 466 = .ok (.iconst 1, 1) := by decide +kernel
theorem dLA_467 : decode code 467 = .ok (.iadd, 1) := by decide +kernel
theorem dLA_468 : decode code 468 = .ok (.iaload, 1) := by decide +kernel
theorem dLA_469 : decode code 469 = .ok (.aload_n 0, 1) := by decide +kernel
theorem dLA_470 : decode code 470 = .ok (.iload_n 3, 1) := by decide +kernel
theorem dLA_471 : decode code 471 = .ok (.iconst 2, 1) := by decide +kernel
theorem dLA_472 : decode code 472 = .ok (.iadd, 1) := by decide +kernel
theorem dLA_473 : decode code 473 = .ok (.iaload, 1) := by decide +kernel
theorem dLA_474 : decode code 474 = .ok (.invokevirtual 65, 3) := by decide +kernel
theorem dLA_477 : decode code 477 = .ok (.if_icmp .eq 110, 3) := by decide +kernel
theorem dLA_480 : decode code 480 = .ok (.iconst 0, 1) := by decide +kernel
theorem dLA_481 : decode code 481 = .ok (.ireturn, 1) := by decide +kernel
theorem dLA_482 : decode code 482 = .ok (.aload_n 1, 1) := by decide +kernel
theorem dLA_483 : decode code 483 = .ok (.invokevirtual 66, 3) := by decide +kernel
theorem dLA_486 : decode code 486 = .ok (.aload_n 2, 1) := by decide +kernel
theorem dLA_487 : decode code 487 = .ok (.invokevirtual 69, 3) := by decide +kernel
theorem dLA_490 : decode code 490 = .ok (.if_icmp .eq 97, 3) := by decide +kernel
theorem dLA_493 : decode code 493 = .ok (.iconst 0, 1) := by decide +kernel
theorem dLA_494 : decode code 494 = .ok (.ireturn, 1) := by decide +kernel
theorem dLA_495 : decode code 495 = .ok (.aload_n 1, 1) := by decide +kernel
theorem dLA_496 : decode code 496 = .ok (.aload_n 0, 1) := by decide +kernel
theorem dLA_497 : decode code 497 = .ok (.iload_n 3, 1) := by decide +kernel
theorem dLA_498 : decode code 498 = .ok (.iconst 1, 1) := by decide +kernel
theorem dLA_499 : decode code 499 = .ok (.iadd, 1) := by decide +kernel
theorem dLA_500 : decode code 500 = .ok (.iaload, 1) := by decide +kernel
theorem dLA_501 : decode code 501 = .ok (.invokevirtual 70, 3) := by decide +kernel
theorem dLA_504 : decode code 504 = .ok (.aload_n 2, 1) := by decide +kernel
theorem dLA_505 : decode code 505 = .ok (.aload_n 0, 1) := by decide +kernel
theorem dLA_506 : decode code 506 = .ok (.iload_n 3, 1) := by decide +kernel
theorem dLA_507 : decode code 507 = .ok (.iconst 1, 1) := by decide +kernel
theorem dLA_508 : decode code 508 = .ok (.iadd, 1) := by decide +kernel
theorem dLA_509 : decode code 509 = .ok (.iaload, 1) := by decide +kernel
theorem dLA_510 : decode code 510 = .ok (.invokevirtual 73, 3) := by decide +kernel
theorem dLA_513 : decode code 513 = .ok (.if_icmp .eq 74, 3) := by decide +kernel
theorem dLA_516 : decode code 516 = .ok (.iconst 0, 1) := by decide +kernel
theorem dLA_517 : decode code 517 = .ok (.ireturn, 1) := by decide +kernel
theorem dLA_518 : decode code 518 = .ok (.aload_n 1, 1) := by decide +kernel
theorem dLA_519 : decode code 519 = .ok (.aload_n 0, 1) := by decide +kernel
theorem dLA_520 : decode code 520 = .ok (.iload_n 3, 1) := by decide +kernel
theorem dLA_521 : decode code 521 = .ok (.iconst 1, 1) := by decide +kernel
theorem dLA_522 : decode code 522 = .ok (.iadd, 1) := by decide +kernel
theorem dLA_523 : decode code 523 = .ok (.iaload, 1) := by decide +kernel
theorem dLA_524 : decode code 524 = .ok (.aload_n 0, 1) := by decide +kernel
theorem dLA_525 : decode code 525 = .ok (.iload_n 3, 1) := by decide +kernel
theorem dLA_526 : decode code 526 = .ok (.iconst 2, 1) := by decide +kernel
theorem dLA_527 : decode code 527 = .ok (.iadd, 1) := by decide +kernel
theorem dLA_528 : decode code 528 = .ok (.iaload, 1) := by decide +kernel
theorem dLA_529 : decode code 529 = .ok (.invokevirtual 74, 3) := by decide +kernel
theorem dLA_532 : decode code 532 = .ok (.aload_n 2, 1) := by decide +kernel
theorem dLA_533 : decode code 533 = .ok (.aload_n 0, 1) := by decide +kernel
theorem dLA_534 : decode code 534 = .ok (.iload_n 3, 1) := by decide +kernel
theorem dLA_535 : decode code 535 = .ok (.iconst 1, 1) := by decide +kernel
theorem dLA_536 : decode code 536 = .ok (.iadd, 1) := by decide +kernel
theorem dLA_537 : decode code 537 = .ok (.iaload, 1) := by decide +kernel
theorem dLA_538 : decode code 538 = .ok (.aload_n 0, 1) := by decide +kernel
theorem dLA_539 : decode code 539 = .ok (.iload_n 3, 1) := by decide +kernel
