/-! rows of the law, by program -/
theorem dL_law_336 : decode cL_law 336 = .ok (.if_icmp .ne 43, 3) := by decide +kernel
theorem dL_law_339 : decode cL_law 339 = .ok (.iload 13, 2) := by decide +kernel
theorem dL_law_341 : decode cL_law 341 = .ok (.aload_n 1, 1) := by decide +kernel
theorem dL_law_342 : decode cL_law 342 = .ok (.invokevirtual 134, 3) := by decide +kernel
theorem dL_law_345 : decode cL_law 345 = .ok (.if_icmp .ne 34, 3) := by decide +kernel
theorem dL_law_348 : decode cL_law 348 = .ok (.aload_n 1, 1) := by decide +kernel
theorem dL_law_349 : decode cL_law 349 = .ok (.invokevirtual 137, 3) := by decide +kernel
theorem dL_law_352 : decode cL_law 352 = .ok (.aload_n 1, 1) := by decide +kernel
theorem dL_law_353 : decode cL_law 353 = .ok (.invokevirtual 140, 3) := by decide +kernel
theorem dL_law_356 : decode cL_law 356 = .ok (.if_icmp .gt 23, 3) := by decide +kernel
theorem dL_law_359 : decode cL_law 359 = .ok (.aload_n 1, 1) := by decide +kernel
theorem dL_law_360 : decode cL_law 360 = .ok (.iload 9, 2) := by decide +kernel
theorem dL_law_362 : decode cL_law 362 = .ok (.iload 10, 2) := by decide +kernel
theorem dL_law_364 : decode cL_law 364 = .ok (.invokevirtual 143, 3) := by decide +kernel
theorem dL_law_367 : decode cL_law 367 = .ok (.ifCond .ne 12, 3) := by decide +kernel
theorem dL_law_370 : decode cL_law 370 = .ok (.aload_n 1, 1) := by decide +kernel
theorem dL_law_371 : decode cL_law 371 = .ok (.iconst 0, 1) := by decide +kernel
theorem dL_law_372 : decode cL_law 372 = .ok (.invokevirtual 146, 3) := by decide +kernel
theorem dL_law_375 : decode cL_law 375 = .ok (.iconst 1, 1) := by decide +kernel
theorem dL_law_376 : decode cL_law 376 = .ok (.if_icmp .eq 5, 3) := by decide +kernel
theorem dL_law_379 : decode cL_law 379 = .ok (.iconst 0, 1) := by decide +kernel
theorem dL_law_380 : decode cL_law 380 = .ok (.ireturn, 1) := by decide +kernel
theorem dL_law_381 : decode cL_law 381 = .ok (.iconst 0, 1) := by decide +kernel
theorem dL_law_382 : decode cL_law 382 = .ok (.istore 14, 2) := by decide +kernel
theorem dL_law_384 : decode cL_law 384 = .ok (.aload_n 1, 1) := by decide +kernel
theorem dL_law_385 : decode cL_law 385 = .ok (.invokevirtual 149, 3) := by decide +kernel
theorem dL_law_388 : decode cL_law 388 = .ok (.istore 15, 2) := by decide +kernel
theorem dL_law_390 : decode cL_law 390 = .ok (.iconst 0, 1) := by decide +kernel
theorem dL_law_391 : decode cL_law 391 = .ok (.istore 16, 2) := by decide +kernel
theorem dL_law_393 : decode cL_law 393 = .ok (.iload 16, 2) := by decide +kernel
theorem dL_law_395 : decode cL_law 395 = .ok (.iload 7, 2) := by decide +kernel
theorem dL_law_397 : decode cL_law 397 = .ok (.if_icmp .ge 149, 3) := by decide +kernel
theorem dL_law_400 : decode cL_law 400 = .ok (.iconst 0, 1) := by decide +kernel
theorem dL_law_401 : decode cL_law 401 = .ok (.istore 17, 2) := by decide +kernel
theorem dL_law_403 : decode cL_law 403 = .ok (.iload 17, 2) := by decide +kernel
theorem dL_law_405 : decode cL_law 405 = .ok (.iload 8, 2) := by decide +kernel
theorem dL_law_407 : decode cL_law 407 = .ok (.if_icmp .ge 133, 3) := by decide +kernel
theorem dL_law_410 : decode cL_law 410 = .ok (.aload_n 1, 1) := by decide +kernel
theorem dL_law_411 : decode cL_law 411 = .ok (.iload 16, 2) := by decide +kernel
theorem dL_law_413 : decode cL_law 413 = .ok (.iload 17, 2) := by decide +kernel
theorem dL_law_415 : decode cL_law 415 = .ok (.invokevirtual 143, 3) := by decide +kernel
theorem dL_law_418 : decode cL_law 418 = .ok (.istore 18, 2) := by decide +kernel
theorem dL_law_420 : decode cL_law 420 = .ok (.aload_n 1, 1) := by decide +kernel
theorem dL_law_421 : decode cL_law 421 = .ok (.iload 16, 2) := by decide +kernel
theorem dL_law_423 : decode cL_law 423 = .ok (.iload 17, 2) := by decide +kernel
theorem dL_law_425 : decode cL_law 425 = .ok (.invokevirtual 152, 3) := by decide +kernel
theorem dL_law_428 : decode cL_law 428 = .ok (.istore 19, 2) := by decide +kernel
theorem dL_law_430 : decode cL_law 430 = .ok (.iload 16, 2) := by decide +kernel
theorem dL_law_432 : decode cL_law 432 = .ok (.iload 9, 2) := by decide +kernel
theorem dL_law_434 : decode cL_law 434 = .ok (.isub, 1) := by decide +kernel
theorem dL_law_435 : decode cL_law 435 = .ok (.invokestatic 67, 3) := by decide +kernel
theorem dL_law_438 : decode cL_law 438 = .ok (.iload 17, 2) := by decide +kernel
theorem dL_law_440 : decode cL_law 440 = .ok (.iload 10, 2) := by decide +kernel
theorem dL_law_442 : decode cL_law 442 = .ok (.isub, 1) := by decide +kernel
theorem dL_law_443 : decode cL_law 443 = .ok (.invokestatic 67, 3) := by decide +kernel
theorem dL_law_446 : decode cL_law 446 = .ok (.iadd, 1) := by decide +kernel
theorem dL_law_447 : decode cL_law 447 = .ok (.istore 20, 2) := by decide +kernel
theorem dL_law_449 : decode cL_law 449 = .ok (.iload 18, 2) := by decide +kernel
theorem dL_law_451 : decode cL_law 451 = .ok (.ifCond .ge 7, 3) := by decide +kernel
theorem dL_law_454 : decode cL_law 454 = .ok (.iconst 1, 1) := by decide +kernel
