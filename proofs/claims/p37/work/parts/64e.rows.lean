/-! rows of the law, by program -/
theorem dL_law_455 : decode cL_law 455 = .ok (.goto 4, 3) := by decide +kernel
theorem dL_law_458 : decode cL_law 458 = .ok (.iconst 0, 1) := by decide +kernel
theorem dL_law_459 : decode cL_law 459 = .ok (.iload 19, 2) := by decide +kernel
theorem dL_law_461 : decode cL_law 461 = .ok (.ifCond .ne 7, 3) := by decide +kernel
theorem dL_law_464 : decode cL_law 464 = .ok (.iconst 1, 1) := by decide +kernel
theorem dL_law_465 : decode cL_law 465 = .ok (.goto 4, 3) := by decide +kernel
theorem dL_law_468 : decode cL_law 468 = .ok (.iconst 0, 1) := by decide +kernel
theorem dL_law_469 : decode cL_law 469 = .ok (.if_icmp .ne 48, 3) := by decide +kernel
theorem dL_law_472 : decode cL_law 472 = .ok (.iload 19, 2) := by decide +kernel
theorem dL_law_474 : decode cL_law 474 = .ok (.bipush 6, 2) := by decide +kernel
theorem dL_law_476 : decode cL_law 476 = .ok (.if_icmp .gt 41, 3) := by decide +kernel
theorem dL_law_479 : decode cL_law 479 = .ok (.aload_n 1, 1) := by decide +kernel
theorem dL_law_480 : decode cL_law 480 = .ok (.iload 16, 2) := by decide +kernel
theorem dL_law_482 : decode cL_law 482 = .ok (.iload 17, 2) := by decide +kernel
theorem dL_law_484 : decode cL_law 484 = .ok (.invokevirtual 119, 3) := by decide +kernel
theorem dL_law_487 : decode cL_law 487 = .ok (.ifCond .eq 8, 3) := by decide +kernel
theorem dL_law_490 : decode cL_law 490 = .ok (.iload 18, 2) := by decide +kernel
theorem dL_law_492 : decode cL_law 492 = .ok (.ifCond .ge 25, 3) := by decide +kernel
theorem dL_law_495 : decode cL_law 495 = .ok (.iload 18, 2) := by decide +kernel
theorem dL_law_497 : decode cL_law 497 = .ok (.ifCond .lt 22, 3) := by decide +kernel
theorem dL_law_500 : decode cL_law 500 = .ok (.iload 18, 2) := by decide +kernel
theorem dL_law_502 : decode cL_law 502 = .ok (.iload 20, 2) := by decide +kernel
theorem dL_law_504 : decode cL_law 504 = .ok (.if_icmp .lt 13, 3) := by decide +kernel
theorem dL_law_507 : decode cL_law 507 = .ok (.iload 18, 2) := by decide +kernel
theorem dL_law_509 : decode cL_law 509 = .ok (.iload 20, 2) := by decide +kernel
theorem dL_law_511 : decode cL_law 511 = .ok (.isub, 1) := by decide +kernel
theorem dL_law_512 : decode cL_law 512 = .ok (.iconst 2, 1) := by decide +kernel
theorem dL_law_513 : decode cL_law 513 = .ok (.irem, 1) := by decide +kernel
theorem dL_law_514 : decode cL_law 514 = .ok (.ifCond .eq 5, 3) := by decide +kernel
theorem dL_law_517 : decode cL_law 517 = .ok (.iconst 0, 1) := by decide +kernel
theorem dL_law_518 : decode cL_law 518 = .ok (.ireturn, 1) := by decide +kernel
theorem dL_law_519 : decode cL_law 519 = .ok (.iload 14, 2) := by decide +kernel
theorem dL_law_521 : decode cL_law 521 = .ok (.iload 18, 2) := by decide +kernel
theorem dL_law_523 : decode cL_law 523 = .ok (.ifCond .ge 7, 3) := by decide +kernel
theorem dL_law_526 : decode cL_law 526 = .ok (.iconst 0, 1) := by decide +kernel
theorem dL_law_527 : decode cL_law 527 = .ok (.goto 4, 3) := by decide +kernel
theorem dL_law_530 : decode cL_law 530 = .ok (.iconst 1, 1) := by decide +kernel
theorem dL_law_531 : decode cL_law 531 = .ok (.iadd, 1) := by decide +kernel
theorem dL_law_532 : decode cL_law 532 = .ok (.istore 14, 2) := by decide +kernel
theorem dL_law_534 : decode cL_law 534 = .ok (.iinc 17 1, 3) := by decide +kernel
theorem dL_law_537 : decode cL_law 537 = .ok (.goto (-134), 3) := by decide +kernel
theorem dL_law_540 : decode cL_law 540 = .ok (.iinc 16 1, 3) := by decide +kernel
theorem dL_law_543 : decode cL_law 543 = .ok (.goto (-150), 3) := by decide +kernel
theorem dL_law_546 : decode cL_law 546 = .ok (.iload 14, 2) := by decide +kernel
theorem dL_law_548 : decode cL_law 548 = .ok (.aload_n 1, 1) := by decide +kernel
theorem dL_law_549 : decode cL_law 549 = .ok (.invokevirtual 155, 3) := by decide +kernel
theorem dL_law_552 : decode cL_law 552 = .ok (.if_icmp .ne 20, 3) := by decide +kernel
theorem dL_law_555 : decode cL_law 555 = .ok (.iload 15, 2) := by decide +kernel
theorem dL_law_557 : decode cL_law 557 = .ok (.iload 14, 2) := by decide +kernel
theorem dL_law_559 : decode cL_law 559 = .ok (.if_icmp .lt 13, 3) := by decide +kernel
theorem dL_law_562 : decode cL_law 562 = .ok (.iload 15, 2) := by decide +kernel
theorem dL_law_564 : decode cL_law 564 = .ok (.bipush 12, 2) := by decide +kernel
theorem dL_law_566 : decode cL_law 566 = .ok (.iload 14, 2) := by decide +kernel
theorem dL_law_568 : decode cL_law 568 = .ok (.imul, 1) := by decide +kernel
theorem dL_law_569 : decode cL_law 569 = .ok (.if_icmp .le 5, 3) := by decide +kernel
theorem dL_law_572 : decode cL_law 572 = .ok (.iconst 0, 1) := by decide +kernel
theorem dL_law_573 : decode cL_law 573 = .ok (.ireturn, 1) := by decide +kernel
theorem dL_law_574 : decode cL_law 574 = .ok (.iconst 0, 1) := by decide +kernel
theorem dL_law_575 : decode cL_law 575 = .ok (.istore 16, 2) := by decide +kernel
theorem dL_law_577 : decode cL_law 577 = .ok (.iload 16, 2) := by decide +kernel
