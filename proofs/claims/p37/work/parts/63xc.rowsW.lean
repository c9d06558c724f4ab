/-! rows of the law, by program -/
theorem dL_act_504 : decode cL_act 504 = .ok (.iadd, 1) := by decide +kernel
theorem dL_act_505 : decode cL_act 505 = .ok (.istore 7, 2) := by decide +kernel
theorem dL_act_507 : decode cL_act 507 = .ok (.iconst 0, 1) := by decide +kernel
theorem dL_act_508 : decode cL_act 508 = .ok (.istore 8, 2) := by decide +kernel
theorem dL_act_510 : decode cL_act 510 = .ok (.iload 8, 2) := by decide +kernel
theorem dL_act_512 : decode cL_act 512 = .ok (.iload 7, 2) := by decide +kernel
theorem dL_act_514 : decode cL_act 514 = .ok (.if_icmp .ge 18, 3) := by decide +kernel
theorem dL_act_517 : decode cL_act 517 = .ok (.aload_n 1, 1) := by decide +kernel
theorem dL_act_518 : decode cL_act 518 = .ok (.iload 6, 2) := by decide +kernel
theorem dL_act_520 : decode cL_act 520 = .ok (.invokevirtual 76, 3) := by decide +kernel
theorem dL_act_523 : decode cL_act 523 = .ok (.ifCond .eq 9, 3) := by decide +kernel
theorem dL_act_526 : decode cL_act 526 = .ok (.iinc 8 1, 3) := by decide +kernel
theorem dL_act_529 : decode cL_act 529 = .ok (.goto (-19), 3) := by decide +kernel
theorem dL_act_532 : decode cL_act 532 = .ok (.aload_n 0, 1) := by decide +kernel
theorem dL_act_533 : decode cL_act 533 = .ok (.iload 6, 2) := by decide +kernel
theorem dL_act_535 : decode cL_act 535 = .ok (.iload 7, 2) := by decide +kernel
theorem dL_act_537 : decode cL_act 537 = .ok (.invokevirtual 80, 3) := by decide +kernel
theorem dL_act_540 : decode cL_act 540 = .ok (.iload 8, 2) := by decide +kernel
theorem dL_act_542 : decode cL_act 542 = .ok (.if_icmp .ne 7, 3) := by decide +kernel
theorem dL_act_545 : decode cL_act 545 = .ok (.iconst 1, 1) := by decide +kernel
theorem dL_act_546 : decode cL_act 546 = .ok (.goto 4, 3) := by decide +kernel
theorem dL_act_549 : decode cL_act 549 = .ok (.iconst 0, 1) := by decide +kernel
theorem dL_act_550 : decode cL_act 550 = .ok (.ireturn, 1) := by decide +kernel
theorem dL_act_551 : decode cL_act 551 = .ok (.iload_n 2, 1) := by decide +kernel
theorem dL_act_552 : decode cL_act 552 = .ok (.iconst 4, 1) := by decide +kernel
theorem dL_act_553 : decode cL_act 553 = .ok (.ishr, 1) := by decide +kernel
theorem dL_act_554 : decode cL_act 554 = .ok (.iconst 4, 1) := by decide +kernel
theorem dL_act_555 : decode cL_act 555 = .ok (.invokestatic 15, 3) := by decide +kernel
theorem dL_act_558 : decode cL_act 558 = .ok (.istore 6, 2) := by decide +kernel
theorem dL_act_560 : decode cL_act 560 = .ok (.aload_n 1, 1) := by decide +kernel
theorem dL_act_561 : decode cL_act 561 = .ok (.iload 6, 2) := by decide +kernel
theorem dL_act_563 : decode cL_act 563 = .ok (.invokevirtual 76, 3) := by decide +kernel
theorem dL_act_566 : decode cL_act 566 = .ok (.istore 7, 2) := by decide +kernel
theorem dL_act_568 : decode cL_act 568 = .ok (.aload_n 0, 1) := by decide +kernel
theorem dL_act_569 : decode cL_act 569 = .ok (.iload 6, 2) := by decide +kernel
theorem dL_act_571 : decode cL_act 571 = .ok (.invokevirtual 83, 3) := by decide +kernel
theorem dL_act_574 : decode cL_act 574 = .ok (.aload_n 1, 1) := by decide +kernel
theorem dL_act_575 : decode cL_act 575 = .ok (.getfield 85, 3) := by decide +kernel
theorem dL_act_578 : decode cL_act 578 = .ok (.iconst 1, 1) := by decide +kernel
theorem dL_act_579 : decode cL_act 579 = .ok (.iaload, 1) := by decide +kernel
theorem dL_act_580 : decode cL_act 580 = .ok (.if_icmp .ne 12, 3) := by decide +kernel
theorem dL_act_583 : decode cL_act 583 = .ok (.iload 7, 2) := by decide +kernel
theorem dL_act_585 : decode cL_act 585 = .ok (.ifCond .eq 7, 3) := by decide +kernel
theorem dL_act_588 : decode cL_act 588 = .ok (.iconst 1, 1) := by decide +kernel
theorem dL_act_589 : decode cL_act 589 = .ok (.goto 4, 3) := by decide +kernel
theorem dL_act_592 : decode cL_act 592 = .ok (.iconst 0, 1) := by decide +kernel
theorem dL_act_593 : decode cL_act 593 = .ok (.ireturn, 1) := by decide +kernel
theorem dL_act_594 : decode cL_act 594 = .ok (.astore 8, 2) := by decide +kernel
theorem dL_act_596 : decode cL_act 596 = .ok (.iload 7, 2) := by decide +kernel
theorem dL_act_598 : decode cL_act 598 = .ok (.ifCond .ne 7, 3) := by decide +kernel
theorem dL_act_601 : decode cL_act 601 = .ok (.iconst 1, 1) := by decide +kernel
theorem dL_act_602 : decode cL_act 602 = .ok (.goto 4, 3) := by decide +kernel
theorem dL_act_605 : decode cL_act 605 = .ok (.iconst 0, 1) := by decide +kernel
theorem dL_act_606 : decode cL_act 606 = .ok (.ireturn, 1) := by decide +kernel
set_option maxRecDepth 20000 in
theorem ggL_build_X4_init : GoodIn wsL_build wsX4_init := goodIn_r _ [9, 10, 11, 12, 13, 14, 15, 16, 17, 18, 19, 20, 21, 22, 23, 107, 108, 109, 110, 111, 112, 113, 114, 115, 116, 117] (by decide +kernel) (by decide +kernel)
set_option maxRecDepth 20000 in
theorem gL_build_X4_init_n88 : GoodIn wsL_build (wsX4_init) := ggL_build_X4_init
set_option maxRecDepth 20000 in
theorem ggL_build_L_cell : GoodIn wsL_build wsL_cell := goodIn_r _ [27, 28] (by decide +kernel) (by decide +kernel)
set_option maxRecDepth 20000 in
theorem gL_build_L_cell : GoodIn wsL_build (va_wsS RL 89 yL_cell wsL_cell) := goodIn_app (goodIn_of _ (by decide +kernel)) ggL_build_L_cell
set_option maxRecDepth 20000 in
theorem ggL_build_L_below : GoodIn wsL_build wsL_below := goodIn_r _ [31, 32] (by decide +kernel) (by decide +kernel)
set_option maxRecDepth 20000 in
theorem gL_build_L_below : GoodIn wsL_build (va_wsS RL 15 yL_below wsL_below) := goodIn_app (goodIn_of _ (by decide +kernel)) ggL_build_L_below
set_option maxRecDepth 20000 in
theorem ggL_build_X4_board : GoodIn wsL_build wsX4_board := goodIn_r _ [36, 13, 14, 15, 16, 17, 18, 19, 20, 37, 38, 39, 40, 41, 3, 42, 43, 44, 23, 107, 108, 109, 110, 111, 112, 113, 114, 115, 116, 117] (by decide +kernel) (by decide +kernel)
set_option maxRecDepth 20000 in
theorem gL_build_X4_board : GoodIn wsL_build (wsV RL 24 RX4 yX4_board wsX4_board) := goodIn_app (goodIn_of _ (by decide +kernel)) ggL_build_X4_board
set_option maxRecDepth 20000 in
theorem ggL_build_X3_newBoard : GoodIn wsL_build wsX3_newBoard := goodIn_ca (goodIn_r _ [49, 50, 51, 52, 53, 48, 54, 55, 56, 57, 58, 59, 60, 61, 62, 63, 64, 65, 66, 67, 68, 69, 70, 71, 118, 119, 120, 121, 122, 123, 124, 125, 126, 127, 128, 129] (by decide +kernel) (by decide +kernel)) (goodIn_sub (fun _ h => List.mem_cons_of_mem _ (List.mem_append_left _ (List.mem_append_left _ (List.mem_append_right _ h)))) (by decide +kernel))
set_option maxRecDepth 20000 in
theorem gL_build_X3_newBoard : GoodIn wsL_build (wsV RL 28 RX3 yX3_newBoard wsX3_newBoard) := goodIn_app (goodIn_of _ (by decide +kernel)) ggL_build_X3_newBoard
set_option maxRecDepth 20000 in
theorem ggL_build_X3_turnWall : GoodIn wsL_build wsX3_turnWall := goodIn_ca (goodIn_ca (goodIn_r _ [75, 76, 77, 60, 59, 78, 79, 80, 48, 81, 82, 83, 84, 65, 85, 86, 68, 69, 87, 88, 89, 90, 91, 70, 118, 119, 120, 121, 122, 123, 124, 125, 126, 127, 128, 129] (by decide +kernel) (by decide +kernel)) (goodIn_sub (fun _ h => List.mem_cons_of_mem _ (List.mem_append_left _ (List.mem_append_right _ h))) (by decide +kernel))) (goodIn_sub (fun _ h => List.mem_cons_of_mem _ (List.mem_append_right _ h)) (by decide +kernel))
set_option maxRecDepth 20000 in
theorem gL_build_X3_turnWall : GoodIn wsL_build (wsV RL 43 RX3 yX3_turnWall wsX3_turnWall) := goodIn_app (goodIn_of _ (by decide +kernel)) ggL_build_X3_turnWall
set_option maxRecDepth 20000 in
theorem ggL_build_X3_addPaint : GoodIn wsL_build wsX3_addPaint := goodIn_ca (goodIn_ca (goodIn_r _ [95, 50, 51, 96, 97, 98, 99, 100, 101, 102, 48, 103, 82, 83, 104, 105, 106, 118, 119, 120, 121, 122, 123, 124, 125] (by decide +kernel) (by decide +kernel)) (goodIn_sub (fun _ h => List.mem_cons_of_mem _ (List.mem_append_left _ (List.mem_append_left _ (List.mem_append_right _ h)))) (by decide +kernel))) (goodIn_sub (fun _ h => List.mem_cons_of_mem _ (List.mem_append_right _ h)) (by decide +kernel))
set_option maxRecDepth 20000 in
theorem gL_build_X3_addPaint : GoodIn wsL_build (wsV RL 64 RX3 yX3_addPaint wsX3_addPaint) := goodIn_app (goodIn_of _ (by decide +kernel)) ggL_build_X3_addPaint
theorem dL_build_0 : decode cL_build 0 = .ok (.new 10, 3) := by decide +kernel
theorem dL_build_3 : decode cL_build 3 = .ok (.dup, 1) := by decide +kernel
theorem dL_build_4 : decode cL_build 4 = .ok (.invokespecial 88, 3) := by decide +kernel
theorem dL_build_7 : decode cL_build 7 = .ok (.astore_n 2, 1) := by decide +kernel
theorem dL_build_8 : decode cL_build 8 = .ok (.aload_n 2, 1) := by decide +kernel
theorem dL_build_9 : decode cL_build 9 = .ok (.iconst 2, 1) := by decide +kernel
theorem dL_build_10 : decode cL_build 10 = .ok (.aload_n 1, 1) := by decide +kernel
theorem dL_build_11 : decode cL_build 11 = .ok (.iconst 0, 1) := by decide +kernel
theorem dL_build_12 : decode cL_build 12 = .ok (.invokestatic 89, 3) := by decide +kernel
theorem dL_build_15 : decode cL_build 15 = .ok (.bipush 6, 2) := by decide +kernel
theorem dL_build_17 : decode cL_build 17 = .ok (.invokestatic 15, 3) := by decide +kernel
theorem dL_build_20 : decode cL_build 20 = .ok (.iadd, 1) := by decide +kernel
theorem dL_build_21 : decode cL_build 21 = .ok (.iconst 2, 1) := by decide +kernel
theorem dL_build_22 : decode cL_build 22 = .ok (.aload_n 1, 1) := by decide +kernel
theorem dL_build_23 : decode cL_build 23 = .ok (.iconst 0, 1) := by decide +kernel
theorem dL_build_24 : decode cL_build 24 = .ok (.invokestatic 89, 3) := by decide +kernel
theorem dL_build_27 : decode cL_build 27 = .ok (.iconst 4, 1) := by decide +kernel
theorem dL_build_28 : decode cL_build 28 = .ok (.ishr, 1) := by decide +kernel
theorem dL_build_29 : decode cL_build 29 = .ok (.bipush 6, 2) := by decide +kernel
theorem dL_build_31 : decode cL_build 31 = .ok (.invokestatic 15, 3) := by decide +kernel
theorem dL_build_34 : decode cL_build 34 = .ok (.iadd, 1) := by decide +kernel
theorem dL_build_35 : decode cL_build 35 = .ok (.invokevirtual 24, 3) := by decide +kernel
theorem dL_build_38 : decode cL_build 38 = .ok (.aload_n 0, 1) := by decide +kernel
theorem dL_build_39 : decode cL_build 39 = .ok (.aload_n 2, 1) := by decide +kernel
theorem dL_build_40 : decode cL_build 40 = .ok (.getfield 9, 3) := by decide +kernel
theorem dL_build_43 : decode cL_build 43 = .ok (.aload_n 2, 1) := by decide +kernel
theorem dL_build_44 : decode cL_build 44 = .ok (.getfield 21, 3) := by decide +kernel
theorem dL_build_47 : decode cL_build 47 = .ok (.invokevirtual 28, 3) := by decide +kernel
theorem dL_build_50 : decode cL_build 50 = .ok (.aload_n 2, 1) := by decide +kernel
theorem dL_build_51 : decode cL_build 51 = .ok (.getfield 9, 3) := by decide +kernel
theorem dL_build_54 : decode cL_build 54 = .ok (.aload_n 2, 1) := by decide +kernel
theorem dL_build_55 : decode cL_build 55 = .ok (.getfield 21, 3) := by decide +kernel
theorem dL_build_58 : decode cL_build 58 = .ok (.imul, 1) := by decide +kernel
theorem dL_build_59 : decode cL_build 59 = .ok (.if_icmp .eq 5, 3) := by decide +kernel
theorem dL_build_62 : decode cL_build 62 = .ok (.aconst_null, 1) := by decide +kernel
theorem dL_build_63 : decode cL_build 63 = .ok (.areturn, 1) := by decide +kernel
theorem dL_build_64 : decode cL_build 64 = .ok (.aload_n 1, 1) := by decide +kernel
theorem dL_build_65 : decode cL_build 65 = .ok (.iconst 1, 1) := by decide +kernel
theorem dL_build_66 : decode cL_build 66 = .ok (.invokestatic 89, 3) := by decide +kernel
theorem dL_build_69 : decode cL_build 69 = .ok (.bipush 12, 2) := by decide +kernel
theorem dL_build_71 : decode cL_build 71 = .ok (.invokestatic 15, 3) := by decide +kernel
theorem dL_build_74 : decode cL_build 74 = .ok (.istore_n 3, 1) := by decide +kernel
theorem dL_build_75 : decode cL_build 75 = .ok (.iconst 0, 1) := by decide +kernel
theorem dL_build_76 : decode cL_build 76 = .ok (.istore 4, 2) := by decide +kernel
theorem dL_build_78 : decode cL_build 78 = .ok (.iload 4, 2) := by decide +kernel
theorem dL_build_80 : decode cL_build 80 = .ok (.iload_n 3, 1) := by decide +kernel
theorem dL_build_81 : decode cL_build 81 = .ok (.if_icmp .ge 101, 3) := by decide +kernel
theorem dL_build_84 : decode cL_build 84 = .ok (.aload_n 1, 1) := by decide +kernel
theorem dL_build_85 : decode cL_build 85 = .ok (.iconst 2, 1) := by decide +kernel
theorem dL_build_86 : decode cL_build 86 = .ok (.iload 4, 2) := by decide +kernel
theorem dL_build_88 : decode cL_build 88 = .ok (.bipush 14, 2) := by decide +kernel
theorem dL_build_90 : decode cL_build 90 = .ok (.irem, 1) := by decide +kernel
theorem dL_build_91 : decode cL_build 91 = .ok (.iadd, 1) := by decide +kernel
theorem dL_build_92 : decode cL_build 92 = .ok (.invokestatic 89, 3) := by decide +kernel
theorem dL_build_95 : decode cL_build 95 = .ok (.iconst 2, 1) := by decide +kernel
theorem dL_build_96 : decode cL_build 96 = .ok (.ishr, 1) := by decide +kernel
theorem dL_build_97 : decode cL_build 97 = .ok (.aload_n 2, 1) := by decide +kernel
theorem dL_build_98 : decode cL_build 98 = .ok (.getfield 9, 3) := by decide +kernel
theorem dL_build_101 : decode cL_build 101 = .ok (.invokestatic 15, 3) := by decide +kernel
theorem dL_build_104 : decode cL_build 104 = .ok (.istore 5, 2) := by decide +kernel
theorem dL_build_106 : decode cL_build 106 = .ok (.aload_n 1, 1) := by decide +kernel
theorem dL_build_107 : decode cL_build 107 = .ok (.iconst 2, 1) := by decide +kernel
theorem dL_build_108 : decode cL_build 108 = .ok (.iload 4, 2) := by decide +kernel
theorem dL_build_110 : decode cL_build 110 = .ok (.bipush 14, 2) := by decide +kernel
theorem dL_build_112 : decode cL_build 112 = .ok (.irem, 1) := by decide +kernel
theorem dL_build_113 : decode cL_build 113 = .ok (.iadd, 1) := by decide +kernel
theorem dL_build_114 : decode cL_build 114 = .ok (.invokestatic 89, 3) := by decide +kernel
theorem dL_build_117 : decode cL_build 117 = .ok (.iconst 5, 1) := by decide +kernel
theorem dL_build_118 : decode cL_build 118 = .ok (.ishr, 1) := by decide +kernel
theorem dL_build_119 : decode cL_build 119 = .ok (.aload_n 2, 1) := by decide +kernel
theorem dL_build_120 : decode cL_build 120 = .ok (.getfield 21, 3) := by decide +kernel
theorem dL_build_123 : decode cL_build 123 = .ok (.invokestatic 15, 3) := by decide +kernel
theorem dL_build_126 : decode cL_build 126 = .ok (.istore 6, 2) := by decide +kernel
theorem dL_build_128 : decode cL_build 128 = .ok (.iload 5, 2) := by decide +kernel
theorem dL_build_130 : decode cL_build 130 = .ok (.iload 6, 2) := by decide +kernel
theorem dL_build_132 : decode cL_build 132 = .ok (.iadd, 1) := by decide +kernel
theorem dL_build_133 : decode cL_build 133 = .ok (.ifCond .eq 43, 3) := by decide +kernel
theorem dL_build_136 : decode cL_build 136 = .ok (.aload_n 2, 1) := by decide +kernel
theorem dL_build_137 : decode cL_build 137 = .ok (.getfield 39, 3) := by decide +kernel
theorem dL_build_140 : decode cL_build 140 = .ok (.iload 5, 2) := by decide +kernel
theorem dL_build_142 : decode cL_build 142 = .ok (.aaload, 1) := by decide +kernel
theorem dL_build_143 : decode cL_build 143 = .ok (.iload 6, 2) := by decide +kernel
