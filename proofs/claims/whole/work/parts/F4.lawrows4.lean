/-! ===== the law, decoded ===== -/
theorem dLA_384 : decode code 384 = .ok (.iaload, 1) := by decide +kernel
theorem dLA_385 : decode code 385 = .ok (.invokevirtual 53, 3) := by decide +kernel
theorem dLA_388 : decode code 388 = .ok (.if_icmp .eq 199, 3) := by decide +kernel
theorem dLA_391 : decode code 391 = .ok (.iconst 0, 1) := by decide +kernel
theorem dLA_392 : decode code 392 = .ok (.ireturn, 1) := by decide +kernel
theorem dLA_393 : decode code 393 = .ok (.aload_n 1, 1) := by decide +kernel
theorem dLA_394 : decode code 394 = .ok (.aload_n 0, 1) := by decide +kernel
theorem dLA_395 : decode code 395 = .ok (.iload_n 3, 1) := by decide +kernel
theorem dLA_396 : decode code 396 = .ok (.iconst 1, 1) := by decide +kernel
theorem dLA_397 : decode code 397 = .ok (.iadd, 1) := by decide +kernel
theorem dLA_398 : decode code 398 = .ok (.iaload, 1) := by decide +kernel
theorem dLA_399 : decode code 399 = .ok (.aload_n 0, 1) := by decide +kernel
theorem dLA_400 : decode code 400 = .ok (.iload_n 3, 1) := by decide +kernel
theorem dLA_401 : decode code 401 = .ok (.iconst 2, 1) := by decide +kernel
theorem dLA_402 : decode code 402 = .ok (.iadd, 1) := by decide +kernel
theorem dLA_403 : decode code 403 = .ok (.iaload, 1) := by decide +kernel
theorem dLA_404 : decode code 404 = .ok (.invokevirtual 54, 3) := by decide +kernel
theorem dLA_407 : decode code 407 = .ok (.aload_n 2, 1) := by decide +kernel
theorem dLA_408 : decode code 408 = .ok (.aload_n 0, 1) := by decide +kernel
theorem dLA_409 : decode code 409 = .ok (.iload_n 3, 1) := by decide +kernel
theorem dLA_410 : decode code 410 = .ok (.iconst 1, 1) := by decide +kernel
theorem dLA_411 : decode code 411 = .ok (.iadd, 1) := by decide +kernel
theorem dLA_412 : decode code 412 = .ok (.iaload, 1) := by decide +kernel
theorem dLA_413 : decode code 413 = .ok (.aload_n 0, 1) := by decide +kernel
theorem dLA_414 : decode code 414 = .ok (.iload_n 3, 1) := by decide +kernel
theorem dLA_415 : decode code 415 = .ok (.iconst 2, 1) := by decide +kernel
theorem dLA_416 : decode code 416 = .ok (.iadd, 1) := by decide +kernel
theorem dLA_417 : decode code 417 = .ok (.iaload, 1) := by decide +kernel
theorem dLA_418 : decode code 418 = .ok (.invokevirtual 57, 3) := by decide +kernel
theorem dLA_421 : decode code 421 = .ok (.if_icmp .eq 166, 3) := by decide +kernel
theorem dLA_424 : decode code 424 = .ok (.iconst 0, 1) := by decide +kernel
theorem dLA_425 : decode code 425 = .ok (.ireturn, 1) := by decide +kernel
theorem dLA_426 : decode code 426 = .ok (.aload_n 1, 1) := by decide +kernel
theorem dLA_427 : decode code 427 = .ok (.aload_n 0, 1) := by decide +kernel
theorem dLA_428 : decode code 428 = .ok (.iload_n 3, 1) := by decide +kernel
theorem dLA_429 : decode code 429 = .ok (.iconst 1, 1) := by decide +kernel
theorem dLA_430 : decode code 430 = .ok (.iadd, 1) := by decide +kernel
theorem dLA_431 : decode code 431 = .ok (.iaload, 1) := by decide +kernel
theorem dLA_432 : decode code 432 = .ok (.invokevirtual 58, 3) := by decide +kernel
theorem dLA_435 : decode code 435 = .ok (.aload_n 2, 1) := by decide +kernel
theorem dLA_436 : decode code 436 = .ok (.aload_n 0, 1) := by decide +kernel
theorem dLA_437 : decode code 437 = .ok (.iload_n 3, 1) := by decide +kernel
theorem dLA_438 : decode code 438 = .ok (.iconst 1, 1) := by decide +kernel
theorem dLA_439 : decode code 439 = .ok (.iadd, 1) := by decide +kernel
theorem dLA_440 : decode code 440 = .ok (.iaload, 1) := by decide +kernel
theorem dLA_441 : decode code 441 = .ok (.invokevirtual 61, 3) := by decide +kernel
theorem dLA_444 : decode code 444 = .ok (.if_icmp .eq 143, 3) := by decide +kernel
theorem dLA_447 : decode code 447 = .ok (.iconst 0, 1) := by decide +kernel
theorem dLA_448 : decode code 448 = .ok (.ireturn, 1) := by decide +kernel
theorem dLA_449 : decode code 449 = .ok (.aload_n 1, 1) := by decide +kernel
theorem dLA_450 : decode code 450 = .ok (.aload_n 0, 1) := by decide +kernel
theorem dLA_451 : decode code 451 = .ok (.iload_n 3, 1) := by decide +kernel
theorem dLA_452 : decode code 452 = .ok (.iconst 1, 1) := by decide +kernel
theorem dLA_453 : decode code 453 = .ok (.iadd, 1) := by decide +kernel
theorem dLA_454 : decode code 454 = .ok (.iaload, 1) := by decide +kernel
theorem dLA_455 : decode code 455 = .ok (.aload_n 0, 1) := by decide +kernel
theorem dLA_456 : decode code 456 = .ok (.iload_n 3, 1) := by decide +kernel
theorem dLA_457 : decode code 457 = .ok (.iconst 2, 1) := by decide +kernel
theorem dLA_458 : decode code 458 = .ok (.iadd, 1) := by decide +kernel
theorem dLA_459 : decode code 459 = .ok (.iaload, 1) := by decide +kernel
