/-! ===== the law, decoded ===== -/
theorem dLA_316 : decode code 316 = .ok (.iadd, 1) := by decide +kernel
theorem dLA_317 : decode code 317 = .ok (.iaload, 1) := by decide +kernel
theorem dLA_318 : decode code 318 = .ok (.aload_n 0, 1) := by decide +kernel
theorem dLA_319 : decode code 319 = .ok (.iload_n 3, 1) := by decide +kernel
theorem dLA_320 : decode code 320 = .ok (.iconst 3, 1) := by decide +kernel
theorem dLA_321 : decode code 321 = .ok (.iadd, 1) := by decide +kernel
theorem dLA_322 : decode code 322 = .ok (.iaload, 1) := by decide +kernel
theorem dLA_323 : decode code 323 = .ok (.aload_n 0, 1) := by decide +kernel
theorem dLA_324 : decode code 324 = .ok (.iload_n 3, 1) := by decide +kernel
theorem dLA_325 : decode code 325 = .ok (.iconst 4, 1) := by decide +kernel
theorem dLA_326 : decode code 326 = .ok (.iadd, 1) := by decide +kernel
theorem dLA_327 : decode code 327 = .ok (.iaload, 1) := by decide +kernel
theorem dLA_328 : decode code 328 = .ok (.invokevirtual 45, 3) := by decide +kernel
theorem dLA_331 : decode code 331 = .ok (.aload_n 2, 1) := by decide +kernel
theorem dLA_332 : decode code 332 = .ok (.aload_n 0, 1) := by decide +kernel
theorem dLA_333 : decode code 333 = .ok (.iload_n 3, 1) := by decide +kernel
theorem dLA_334 : decode code 334 = .ok (.iconst 1, 1) := by decide +kernel
theorem dLA_335 : decode code 335 = .ok (.iadd, 1) := by decide +kernel
theorem dLA_336 : decode code 336 = .ok (.iaload, 1) := by decide +kernel
theorem dLA_337 : decode code 337 = .ok (.aload_n 0, 1) := by decide +kernel
theorem dLA_338 : decode code 338 = .ok (.iload_n 3, 1) := by decide +kernel
theorem dLA_339 : decode code 339 = .ok (.iconst 2, 1) := by decide +kernel
theorem dLA_340 : decode code 340 = .ok (.iadd, 1) := by decide +kernel
theorem dLA_341 : decode code 341 = .ok (.iaload, 1) := by decide +kernel
theorem dLA_342 : decode code 342 = .ok (.aload_n 0, 1) := by decide +kernel
theorem dLA_343 : decode code 343 = .ok (.iload_n 3, 1) := by decide +kernel
theorem dLA_344 : decode code 344 = .ok (.iconst 3, 1) := by decide +kernel
theorem dLA_345 : decode code 345 = .ok (.iadd, 1) := by decide +kernel
theorem dLA_346 : decode code 346 = .ok (.iaload, 1) := by decide +kernel
theorem dLA_347 : decode code 347 = .ok (.aload_n 0, 1) := by decide +kernel
theorem dLA_348 : decode code 348 = .ok (.iload_n 3, 1) := by decide +kernel
theorem dLA_349 : decode code 349 = .ok (.iconst 4, 1) := by decide +kernel
theorem dLA_350 : decode code 350 = .ok (.iadd, 1) := by decide +kernel
theorem dLA_351 : decode code 351 = .ok (.iaload, 1) := by decide +kernel
theorem dLA_352 : decode code 352 = .ok (.invokevirtual 49, 3) := by decide +kernel
theorem dLA_355 : decode code 355 = .ok (.if_icmp .eq 232, 3) := by decide +kernel
theorem dLA_358 : decode code 358 = .ok (.iconst 0, 1) := by decide +kernel
theorem dLA_359 : decode code 359 = .ok (.ireturn, 1) := by decide +kernel
theorem dLA_360 : decode code 360 = .ok (.aload_n 1, 1) := by decide +kernel
theorem dLA_361 : decode code 361 = .ok (.aload_n 0, 1) := by decide +kernel
theorem dLA_362 : decode code 362 = .ok (.iload_n 3, 1) := by decide +kernel
theorem dLA_363 : decode code 363 = .ok (.iconst 1, 1) := by decide +kernel
theorem dLA_364 : decode code 364 = .ok (.iadd, 1) := by decide +kernel
theorem dLA_365 : decode code 365 = .ok (.iaload, 1) := by decide +kernel
theorem dLA_366 : decode code 366 = .ok (.aload_n 0, 1) := by decide +kernel
theorem dLA_367 : decode code 367 = .ok (.iload_n 3, 1) := by decide +kernel
theorem dLA_368 : decode code 368 = .ok (.iconst 2, 1) := by decide +kernel
theorem dLA_369 : decode code 369 = .ok (.iadd, 1) := by decide +kernel
theorem dLA_370 : decode code 370 = .ok (.iaload, 1) := by decide +kernel
theorem dLA_371 : decode code 371 = .ok (.invokevirtual 50, 3) := by decide +kernel
theorem dLA_374 : decode code 374 = .ok (.aload_n 2, 1) := by decide +kernel
theorem dLA_375 : decode code 375 = .ok (.aload_n 0, 1) := by decide +kernel
theorem dLA_376 : decode code 376 = .ok (.iload_n 3, 1) := by decide +kernel
theorem dLA_377 : decode code 377 = .ok (.iconst 1, 1) := by decide +kernel
theorem dLA_378 : decode code 378 = .ok (.iadd, 1) := by decide +kernel
theorem dLA_379 : decode code 379 = .ok (.iaload, 1) := by decide +kernel
theorem dLA_380 : decode code 380 = .ok (.aload_n 0, 1) := by decide +kernel
theorem dLA_381 : decode code 381 = .ok (.iload_n 3, 1) := by decide +kernel
theorem dLA_382 : decode code 382 = .ok (.iconst 2, 1) := by decide +kernel
theorem dLA_383 : decode code 383 = .ok (.iadd, 1) := by decide +kernel
