set_option maxRecDepth 20000 in
theorem ggX4_init_X4_take : GoodIn wsX4_init wsX4_take := goodIn_r _ [21, 22, 23, 24, 25, 26, 5, 7, 27, 28, 29, 20, 30, 31, 32, 33, 34, 35, 36, 37, 38, 39, 40, 41, 42, 43, 44, 45, 46, 47, 48, 49, 50, 51, 52, 53, 54, 55, 56, 57, 58] (by decide +kernel) (by decide +kernel)
set_option maxRecDepth 20000 in
theorem gX4_init_X4_take : GoodIn wsX4_init (wsV RX4 44 RX4 yX4_take wsX4_take) := goodIn_app (goodIn_of _ (by decide +kernel)) ggX4_init_X4_take
theorem dX4_init_0 : decode cX4_init 0 = .ok (.aload_n 0, 1) := by decide +kernel
theorem dX4_init_1 : decode cX4_init 1 = .ok (.invokespecial 1, 3) := by decide +kernel
theorem dX4_init_4 : decode cX4_init 4 = .ok (.aload_n 0, 1) := by decide +kernel
theorem dX4_init_5 : decode cX4_init 5 = .ok (.bipush 49, 2) := by decide +kernel
theorem dX4_init_7 : decode cX4_init 7 = .ok (.newarray .boolean, 2) := by decide +kernel
theorem dX4_init_9 : decode cX4_init 9 = .ok (.putfield 9, 3) := by decide +kernel
theorem dX4_init_12 : decode cX4_init 12 = .ok (.aload_n 0, 1) := by decide +kernel
theorem dX4_init_13 : decode cX4_init 13 = .ok (.bipush 49, 2) := by decide +kernel
theorem dX4_init_15 : decode cX4_init 15 = .ok (.newarray .int, 2) := by decide +kernel
theorem dX4_init_17 : decode cX4_init 17 = .ok (.putfield 13, 3) := by decide +kernel
theorem dX4_init_20 : decode cX4_init 20 = .ok (.aload_n 0, 1) := by decide +kernel
theorem dX4_init_21 : decode cX4_init 21 = .ok (.bipush 7, 2) := by decide +kernel
theorem dX4_init_23 : decode cX4_init 23 = .ok (.newarray .int, 2) := by decide +kernel
theorem dX4_init_25 : decode cX4_init 25 = .ok (.putfield 17, 3) := by decide +kernel
theorem dX4_init_28 : decode cX4_init 28 = .ok (.aload_n 0, 1) := by decide +kernel
theorem dX4_init_29 : decode cX4_init 29 = .ok (.bipush 7, 2) := by decide +kernel
theorem dX4_init_31 : decode cX4_init 31 = .ok (.newarray .int, 2) := by decide +kernel
theorem dX4_init_33 : decode cX4_init 33 = .ok (.putfield 20, 3) := by decide +kernel
theorem dX4_init_36 : decode cX4_init 36 = .ok (.aload_n 0, 1) := by decide +kernel
theorem dX4_init_37 : decode cX4_init 37 = .ok (.sipush 2401, 3) := by decide +kernel
theorem dX4_init_40 : decode cX4_init 40 = .ok (.newarray .int, 2) := by decide +kernel
theorem dX4_init_42 : decode cX4_init 42 = .ok (.putfield 23, 3) := by decide +kernel
theorem dX4_init_45 : decode cX4_init 45 = .ok (.aload_n 0, 1) := by decide +kernel
theorem dX4_init_46 : decode cX4_init 46 = .ok (.sipush 2401, 3) := by decide +kernel
theorem dX4_init_49 : decode cX4_init 49 = .ok (.newarray .int, 2) := by decide +kernel
theorem dX4_init_51 : decode cX4_init 51 = .ok (.putfield 26, 3) := by decide +kernel
theorem dX4_init_54 : decode cX4_init 54 = .ok (.aload_n 0, 1) := by decide +kernel
theorem dX4_init_55 : decode cX4_init 55 = .ok (.sipush 2401, 3) := by decide +kernel
theorem dX4_init_58 : decode cX4_init 58 = .ok (.newarray .int, 2) := by decide +kernel
theorem dX4_init_60 : decode cX4_init 60 = .ok (.putfield 29, 3) := by decide +kernel
theorem dX4_init_63 : decode cX4_init 63 = .ok (.aload_n 0, 1) := by decide +kernel
theorem dX4_init_64 : decode cX4_init 64 = .ok (.sipush 2401, 3) := by decide +kernel
theorem dX4_init_67 : decode cX4_init 67 = .ok (.newarray .int, 2) := by decide +kernel
theorem dX4_init_69 : decode cX4_init 69 = .ok (.putfield 32, 3) := by decide +kernel
theorem dX4_init_72 : decode cX4_init 72 = .ok (.aload_n 0, 1) := by decide +kernel
theorem dX4_init_73 : decode cX4_init 73 = .ok (.sipush 2401, 3) := by decide +kernel
theorem dX4_init_76 : decode cX4_init 76 = .ok (.newarray .int, 2) := by decide +kernel
theorem dX4_init_78 : decode cX4_init 78 = .ok (.putfield 35, 3) := by decide +kernel
theorem dX4_init_81 : decode cX4_init 81 = .ok (.aload_n 0, 1) := by decide +kernel
theorem dX4_init_82 : decode cX4_init 82 = .ok (.bipush 49, 2) := by decide +kernel
theorem dX4_init_84 : decode cX4_init 84 = .ok (.newarray .boolean, 2) := by decide +kernel
theorem dX4_init_86 : decode cX4_init 86 = .ok (.putfield 38, 3) := by decide +kernel
theorem dX4_init_89 : decode cX4_init 89 = .ok (.aload_n 0, 1) := by decide +kernel
theorem dX4_init_90 : decode cX4_init 90 = .ok (.bipush 49, 2) := by decide +kernel
theorem dX4_init_92 : decode cX4_init 92 = .ok (.newarray .boolean, 2) := by decide +kernel
theorem dX4_init_94 : decode cX4_init 94 = .ok (.putfield 41, 3) := by decide +kernel
theorem dX4_init_97 : decode cX4_init 97 = .ok (.iconst 1, 1) := by decide +kernel
theorem dX4_init_98 : decode cX4_init 98 = .ok (.istore_n 1, 1) := by decide +kernel
theorem dX4_init_99 : decode cX4_init 99 = .ok (.iload_n 1, 1) := by decide +kernel
theorem dX4_init_100 : decode cX4_init 100 = .ok (.bipush 6, 2) := by decide +kernel
theorem dX4_init_102 : decode cX4_init 102 = .ok (.if_icmp .gt 16, 3) := by decide +kernel
theorem dX4_init_105 : decode cX4_init 105 = .ok (.aload_n 0, 1) := by decide +kernel
theorem dX4_init_106 : decode cX4_init 106 = .ok (.getfield 17, 3) := by decide +kernel
theorem dX4_init_109 : decode cX4_init 109 = .ok (.iload_n 1, 1) := by decide +kernel
theorem dX4_init_110 : decode cX4_init 110 = .ok (.iload_n 1, 1) := by decide +kernel
theorem dX4_init_111 : decode cX4_init 111 = .ok (.iastore, 1) := by decide +kernel
theorem dX4_init_112 : decode cX4_init 112 = .ok (.iinc 1 1, 3) := by decide +kernel
theorem dX4_init_115 : decode cX4_init 115 = .ok (.goto (-16), 3) := by decide +kernel
theorem dX4_init_118 : decode cX4_init 118 = .ok (.aload_n 0, 1) := by decide +kernel
theorem dX4_init_119 : decode cX4_init 119 = .ok (.iconst 5, 1) := by decide +kernel
theorem dX4_init_120 : decode cX4_init 120 = .ok (.iconst 5, 1) := by decide +kernel
theorem dX4_init_121 : decode cX4_init 121 = .ok (.invokevirtual 44, 3) := by decide +kernel
theorem dX4_init_124 : decode cX4_init 124 = .ok (.return_, 1) := by decide +kernel
theorem dX4_thrown_0 : decode cX4_thrown 0 = .ok (.aload_n 0, 1) := by decide +kernel
theorem dX4_thrown_1 : decode cX4_thrown 1 = .ok (.getfield 48, 3) := by decide +kernel
theorem dX4_thrown_4 : decode cX4_thrown 4 = .ok (.ireturn, 1) := by decide +kernel
theorem dX4_no_0 : decode cX4_no 0 = .ok (.aload_n 0, 1) := by decide +kernel
theorem dX4_no_1 : decode cX4_no 1 = .ok (.iload_n 1, 1) := by decide +kernel
theorem dX4_no_2 : decode cX4_no 2 = .ok (.putfield 48, 3) := by decide +kernel
theorem dX4_no_5 : decode cX4_no 5 = .ok (.iconst 0, 1) := by decide +kernel
theorem dX4_no_6 : decode cX4_no 6 = .ok (.ireturn, 1) := by decide +kernel
theorem dX4_isNot_0 : decode cX4_isNot 0 = .ok (.aload_n 0, 1) := by decide +kernel
theorem dX4_isNot_1 : decode cX4_isNot 1 = .ok (.iload_n 1, 1) := by decide +kernel
theorem dX4_isNot_2 : decode cX4_isNot 2 = .ok (.putfield 48, 3) := by decide +kernel
theorem dX4_isNot_5 : decode cX4_isNot 5 = .ok (.iconst 0, 1) := by decide +kernel
theorem dX4_isNot_6 : decode cX4_isNot 6 = .ok (.ireturn, 1) := by decide +kernel
theorem dX4_isIn_0 : decode cX4_isIn 0 = .ok (.iload_n 0, 1) := by decide +kernel
theorem dX4_isIn_1 : decode cX4_isIn 1 = .ok (.iload_n 1, 1) := by decide +kernel
theorem dX4_isIn_2 : decode cX4_isIn 2 = .ok (.if_icmp .lt 12, 3) := by decide +kernel
theorem dX4_isIn_5 : decode cX4_isIn 5 = .ok (.iload_n 0, 1) := by decide +kernel
theorem dX4_isIn_6 : decode cX4_isIn 6 = .ok (.iload_n 2, 1) := by decide +kernel
theorem dX4_isIn_7 : decode cX4_isIn 7 = .ok (.if_icmp .gt 7, 3) := by decide +kernel
theorem dX4_isIn_10 : decode cX4_isIn 10 = .ok (.iconst 1, 1) := by decide +kernel
theorem dX4_isIn_11 : decode cX4_isIn 11 = .ok (.goto 4, 3) := by decide +kernel
theorem dX4_isIn_14 : decode cX4_isIn 14 = .ok (.iconst 0, 1) := by decide +kernel
theorem dX4_isIn_15 : decode cX4_isIn 15 = .ok (.ireturn, 1) := by decide +kernel
set_option maxRecDepth 20000 in
theorem ggX4_isCell_X4_isIn : GoodIn wsX4_isCell wsX4_isIn := goodIn_r _ [6] (by decide +kernel) (by decide +kernel)
set_option maxRecDepth 20000 in
theorem gX4_isCell_X4_isIn : GoodIn wsX4_isCell (va_wsS RX4 55 yX4_isIn wsX4_isIn) := goodIn_app (goodIn_of _ (by decide +kernel)) ggX4_isCell_X4_isIn
theorem dX4_isCell_0 : decode cX4_isCell 0 = .ok (.iload_n 1, 1) := by decide +kernel
theorem dX4_isCell_1 : decode cX4_isCell 1 = .ok (.iconst 0, 1) := by decide +kernel
theorem dX4_isCell_2 : decode cX4_isCell 2 = .ok (.aload_n 0, 1) := by decide +kernel
theorem dX4_isCell_3 : decode cX4_isCell 3 = .ok (.getfield 52, 3) := by decide +kernel
theorem dX4_isCell_6 : decode cX4_isCell 6 = .ok (.iconst 1, 1) := by decide +kernel
theorem dX4_isCell_7 : decode cX4_isCell 7 = .ok (.isub, 1) := by decide +kernel
theorem dX4_isCell_8 : decode cX4_isCell 8 = .ok (.invokestatic 55, 3) := by decide +kernel
theorem dX4_isCell_11 : decode cX4_isCell 11 = .ok (.ifCond .eq 21, 3) := by decide +kernel
theorem dX4_isCell_14 : decode cX4_isCell 14 = .ok (.iload_n 2, 1) := by decide +kernel
theorem dX4_isCell_15 : decode cX4_isCell 15 = .ok (.iconst 0, 1) := by decide +kernel
theorem dX4_isCell_16 : decode cX4_isCell 16 = .ok (.aload_n 0, 1) := by decide +kernel
theorem dX4_isCell_17 : decode cX4_isCell 17 = .ok (.getfield 59, 3) := by decide +kernel
theorem dX4_isCell_20 : decode cX4_isCell 20 = .ok (.iconst 1, 1) := by decide +kernel
theorem dX4_isCell_21 : decode cX4_isCell 21 = .ok (.isub, 1) := by decide +kernel
theorem dX4_isCell_22 : decode cX4_isCell 22 = .ok (.invokestatic 55, 3) := by decide +kernel
theorem dX4_isCell_25 : decode cX4_isCell 25 = .ok (.ifCond .eq 7, 3) := by decide +kernel
theorem dX4_isCell_28 : decode cX4_isCell 28 = .ok (.iconst 1, 1) := by decide +kernel
theorem dX4_isCell_29 : decode cX4_isCell 29 = .ok (.goto 4, 3) := by decide +kernel
theorem dX4_isCell_32 : decode cX4_isCell 32 = .ok (.iconst 0, 1) := by decide +kernel
theorem dX4_isCell_33 : decode cX4_isCell 33 = .ok (.ireturn, 1) := by decide +kernel
set_option maxRecDepth 20000 in
theorem ggX4_isFace_X4_isIn : GoodIn wsX4_isFace wsX4_isIn := goodIn_r _ [4] (by decide +kernel) (by decide +kernel)
set_option maxRecDepth 20000 in
theorem gX4_isFace_X4_isIn : GoodIn wsX4_isFace (va_wsS RX4 55 yX4_isIn wsX4_isIn) := goodIn_app (goodIn_of _ (by decide +kernel)) ggX4_isFace_X4_isIn
theorem dX4_isFace_0 : decode cX4_isFace 0 = .ok (.iload_n 0, 1) := by decide +kernel
theorem dX4_isFace_1 : decode cX4_isFace 1 = .ok (.iconst 1, 1) := by decide +kernel
theorem dX4_isFace_2 : decode cX4_isFace 2 = .ok (.bipush 6, 2) := by decide +kernel
theorem dX4_isFace_4 : decode cX4_isFace 4 = .ok (.invokestatic 55, 3) := by decide +kernel
theorem dX4_isFace_7 : decode cX4_isFace 7 = .ok (.ireturn, 1) := by decide +kernel
set_option maxRecDepth 20000 in
theorem ggX4_isSide_X4_isIn : GoodIn wsX4_isSide wsX4_isIn := goodIn_r _ [4] (by decide +kernel) (by decide +kernel)
set_option maxRecDepth 20000 in
theorem gX4_isSide_X4_isIn : GoodIn wsX4_isSide (va_wsS RX4 55 yX4_isIn wsX4_isIn) := goodIn_app (goodIn_of _ (by decide +kernel)) ggX4_isSide_X4_isIn
theorem dX4_isSide_0 : decode cX4_isSide 0 = .ok (.iload_n 0, 1) := by decide +kernel
theorem dX4_isSide_1 : decode cX4_isSide 1 = .ok (.iconst 0, 1) := by decide +kernel
theorem dX4_isSide_2 : decode cX4_isSide 2 = .ok (.iconst 3, 1) := by decide +kernel
theorem dX4_isSide_3 : decode cX4_isSide 3 = .ok (.invokestatic 55, 3) := by decide +kernel
theorem dX4_isSide_6 : decode cX4_isSide 6 = .ok (.ireturn, 1) := by decide +kernel
theorem dX4_turnAsAtFirst_0 : decode cX4_turnAsAtFirst 0 = .ok (.aload_n 0, 1) := by decide +kernel
theorem dX4_turnAsAtFirst_1 : decode cX4_turnAsAtFirst 1 = .ok (.iconst 1, 1) := by decide +kernel
theorem dX4_turnAsAtFirst_2 : decode cX4_turnAsAtFirst 2 = .ok (.putfield 62, 3) := by decide +kernel
theorem dX4_turnAsAtFirst_5 : decode cX4_turnAsAtFirst 5 = .ok (.aload_n 0, 1) := by decide +kernel
theorem dX4_turnAsAtFirst_6 : decode cX4_turnAsAtFirst 6 = .ok (.iconst 2, 1) := by decide +kernel
theorem dX4_turnAsAtFirst_7 : decode cX4_turnAsAtFirst 7 = .ok (.putfield 65, 3) := by decide +kernel
theorem dX4_turnAsAtFirst_10 : decode cX4_turnAsAtFirst 10 = .ok (.aload_n 0, 1) := by decide +kernel
theorem dX4_turnAsAtFirst_11 : decode cX4_turnAsAtFirst 11 = .ok (.iconst 3, 1) := by decide +kernel
theorem dX4_turnAsAtFirst_12 : decode cX4_turnAsAtFirst 12 = .ok (.putfield 68, 3) := by decide +kernel
theorem dX4_turnAsAtFirst_15 : decode cX4_turnAsAtFirst 15 = .ok (.return_, 1) := by decide +kernel
set_option maxRecDepth 20000 in
theorem ggX4_take_X4_turnAsAtFirst : GoodIn wsX4_take wsX4_turnAsAtFirst := goodIn_r _ [12, 13, 14, 15, 16, 17, 18, 19, 20, 21, 22, 23, 24, 25, 26, 27, 28, 29, 30, 31, 32, 33, 34, 35, 36, 37, 38, 39, 40] (by decide +kernel) (by decide +kernel)
set_option maxRecDepth 20000 in
theorem gX4_take_X4_turnAsAtFirst : GoodIn wsX4_take (wsV RX4 80 RX4 yX4_turnAsAtFirst wsX4_turnAsAtFirst) := goodIn_app (goodIn_of _ (by decide +kernel)) ggX4_take_X4_turnAsAtFirst
theorem dX4_take_0 : decode cX4_take 0 = .ok (.aload_n 0, 1) := by decide +kernel
theorem dX4_take_1 : decode cX4_take 1 = .ok (.iload_n 1, 1) := by decide +kernel
theorem dX4_take_2 : decode cX4_take 2 = .ok (.putfield 52, 3) := by decide +kernel
theorem dX4_take_5 : decode cX4_take 5 = .ok (.aload_n 0, 1) := by decide +kernel
theorem dX4_take_6 : decode cX4_take 6 = .ok (.iload_n 2, 1) := by decide +kernel
theorem dX4_take_7 : decode cX4_take 7 = .ok (.putfield 59, 3) := by decide +kernel
theorem dX4_take_10 : decode cX4_take 10 = .ok (.aload_n 0, 1) := by decide +kernel
theorem dX4_take_11 : decode cX4_take 11 = .ok (.iconst 0, 1) := by decide +kernel
theorem dX4_take_12 : decode cX4_take 12 = .ok (.putfield 71, 3) := by decide +kernel
theorem dX4_take_15 : decode cX4_take 15 = .ok (.aload_n 0, 1) := by decide +kernel
theorem dX4_take_16 : decode cX4_take 16 = .ok (.iconst 0, 1) := by decide +kernel
theorem dX4_take_17 : decode cX4_take 17 = .ok (.putfield 74, 3) := by decide +kernel
theorem dX4_take_20 : decode cX4_take 20 = .ok (.aload_n 0, 1) := by decide +kernel
theorem dX4_take_21 : decode cX4_take 21 = .ok (.iconst 0, 1) := by decide +kernel
theorem dX4_take_22 : decode cX4_take 22 = .ok (.putfield 77, 3) := by decide +kernel
theorem dX4_take_25 : decode cX4_take 25 = .ok (.aload_n 0, 1) := by decide +kernel
theorem dX4_take_26 : decode cX4_take 26 = .ok (.invokevirtual 80, 3) := by decide +kernel
theorem dX4_take_29 : decode cX4_take 29 = .ok (.iconst 0, 1) := by decide +kernel
theorem dX4_take_30 : decode cX4_take 30 = .ok (.istore_n 3, 1) := by decide +kernel
theorem dX4_take_31 : decode cX4_take 31 = .ok (.iload_n 3, 1) := by decide +kernel
theorem dX4_take_32 : decode cX4_take 32 = .ok (.bipush 49, 2) := by decide +kernel
theorem dX4_take_34 : decode cX4_take 34 = .ok (.if_icmp .ge 23, 3) := by decide +kernel
theorem dX4_take_37 : decode cX4_take 37 = .ok (.aload_n 0, 1) := by decide +kernel
theorem dX4_take_38 : decode cX4_take 38 = .ok (.getfield 9, 3) := by decide +kernel
theorem dX4_take_41 : decode cX4_take 41 = .ok (.iload_n 3, 1) := by decide +kernel
theorem dX4_take_42 : decode cX4_take 42 = .ok (.iconst 0, 1) := by decide +kernel
theorem dX4_take_43 : decode cX4_take 43 = .ok (.bastore, 1) := by decide +kernel
theorem dX4_take_44 : decode cX4_take 44 = .ok (.aload_n 0, 1) := by decide +kernel
theorem dX4_take_45 : decode cX4_take 45 = .ok (.getfield 13, 3) := by decide +kernel
theorem dX4_take_48 : decode cX4_take 48 = .ok (.iload_n 3, 1) := by decide +kernel
theorem dX4_take_49 : decode cX4_take 49 = .ok (.iconst 0, 1) := by decide +kernel
theorem dX4_take_50 : decode cX4_take 50 = .ok (.iastore, 1) := by decide +kernel
theorem dX4_take_51 : decode cX4_take 51 = .ok (.iinc 3 1, 3) := by decide +kernel
theorem dX4_take_54 : decode cX4_take 54 = .ok (.goto (-23), 3) := by decide +kernel
theorem dX4_take_57 : decode cX4_take 57 = .ok (.return_, 1) := by decide +kernel
set_option maxRecDepth 20000 in
theorem ggX4_beside_X4_isCell : GoodIn wsX4_beside wsX4_isCell := goodIn_r _ [7, 1, 8, 9, 10, 6, 11, 12, 13, 14, 15, 16, 17, 18, 19, 20, 21, 22, 23, 24, 25, 26, 27, 28, 29, 30, 31, 32, 33, 34, 35, 36] (by decide +kernel) (by decide +kernel)
set_option maxRecDepth 20000 in
theorem gX4_beside_X4_isCell : GoodIn wsX4_beside (wsV RX4 83 RX4 yX4_isCell wsX4_isCell) := goodIn_app (goodIn_of _ (by decide +kernel)) ggX4_beside_X4_isCell
theorem dX4_beside_0 : decode cX4_beside 0 = .ok (.iload_n 1, 1) := by decide +kernel
theorem dX4_beside_1 : decode cX4_beside 1 = .ok (.aload_n 0, 1) := by decide +kernel
theorem dX4_beside_2 : decode cX4_beside 2 = .ok (.getfield 52, 3) := by decide +kernel
theorem dX4_beside_5 : decode cX4_beside 5 = .ok (.irem, 1) := by decide +kernel
theorem dX4_beside_6 : decode cX4_beside 6 = .ok (.iload_n 2, 1) := by decide +kernel
theorem dX4_beside_7 : decode cX4_beside 7 = .ok (.iconst 1, 1) := by decide +kernel
theorem dX4_beside_8 : decode cX4_beside 8 = .ok (.if_icmp .ne 7, 3) := by decide +kernel
theorem dX4_beside_11 : decode cX4_beside 11 = .ok (.iconst 1, 1) := by decide +kernel
theorem dX4_beside_12 : decode cX4_beside 12 = .ok (.goto 13, 3) := by decide +kernel
theorem dX4_beside_15 : decode cX4_beside 15 = .ok (.iload_n 2, 1) := by decide +kernel
theorem dX4_beside_16 : decode cX4_beside 16 = .ok (.iconst 3, 1) := by decide +kernel
theorem dX4_beside_17 : decode cX4_beside 17 = .ok (.if_icmp .ne 7, 3) := by decide +kernel
theorem dX4_beside_20 : decode cX4_beside 20 = .ok (.iconst (-1), 1) := by decide +kernel
theorem dX4_beside_21 : decode cX4_beside 21 = .ok (.goto 4, 3) := by decide +kernel
theorem dX4_beside_24 : decode cX4_beside 24 = .ok (.iconst 0, 1) := by decide +kernel
theorem dX4_beside_25 : decode cX4_beside 25 = .ok (.iadd, 1) := by decide +kernel
theorem dX4_beside_26 : decode cX4_beside 26 = .ok (.istore_n 3, 1) := by decide +kernel
theorem dX4_beside_27 : decode cX4_beside 27 = .ok (.iload_n 1, 1) := by decide +kernel
theorem dX4_beside_28 : decode cX4_beside 28 = .ok (.aload_n 0, 1) := by decide +kernel
theorem dX4_beside_29 : decode cX4_beside 29 = .ok (.getfield 52, 3) := by decide +kernel
theorem dX4_beside_32 : decode cX4_beside 32 = .ok (.idiv, 1) := by decide +kernel
theorem dX4_beside_33 : decode cX4_beside 33 = .ok (.iload_n 2, 1) := by decide +kernel
theorem dX4_beside_34 : decode cX4_beside 34 = .ok (.iconst 2, 1) := by decide +kernel
theorem dX4_beside_35 : decode cX4_beside 35 = .ok (.if_icmp .ne 7, 3) := by decide +kernel
theorem dX4_beside_38 : decode cX4_beside 38 = .ok (.iconst 1, 1) := by decide +kernel
theorem dX4_beside_39 : decode cX4_beside 39 = .ok (.goto 12, 3) := by decide +kernel
theorem dX4_beside_42 : decode cX4_beside 42 = .ok (.iload_n 2, 1) := by decide +kernel
theorem dX4_beside_43 : decode cX4_beside 43 = .ok (.ifCond .ne 7, 3) := by decide +kernel
theorem dX4_beside_46 : decode cX4_beside 46 = .ok (.iconst (-1), 1) := by decide +kernel
theorem dX4_beside_47 : decode cX4_beside 47 = .ok (.goto 4, 3) := by decide +kernel
theorem dX4_beside_50 : decode cX4_beside 50 = .ok (.iconst 0, 1) := by decide +kernel
theorem dX4_beside_51 : decode cX4_beside 51 = .ok (.iadd, 1) := by decide +kernel
theorem dX4_beside_52 : decode cX4_beside 52 = .ok (.istore 4, 2) := by decide +kernel
theorem dX4_beside_54 : decode cX4_beside 54 = .ok (.aload_n 0, 1) := by decide +kernel
theorem dX4_beside_55 : decode cX4_beside 55 = .ok (.iload_n 3, 1) := by decide +kernel
theorem dX4_beside_56 : decode cX4_beside 56 = .ok (.iload 4, 2) := by decide +kernel
theorem dX4_beside_58 : decode cX4_beside 58 = .ok (.invokevirtual 83, 3) := by decide +kernel
theorem dX4_beside_61 : decode cX4_beside 61 = .ok (.ifCond .eq 32, 3) := by decide +kernel
theorem dX4_beside_64 : decode cX4_beside 64 = .ok (.aload_n 0, 1) := by decide +kernel
theorem dX4_beside_65 : decode cX4_beside 65 = .ok (.getfield 9, 3) := by decide +kernel
theorem dX4_beside_68 : decode cX4_beside 68 = .ok (.aload_n 0, 1) := by decide +kernel
theorem dX4_beside_69 : decode cX4_beside 69 = .ok (.getfield 52, 3) := by decide +kernel
theorem dX4_beside_72 : decode cX4_beside 72 = .ok (.iload 4, 2) := by decide +kernel
theorem dX4_beside_74 : decode cX4_beside 74 = .ok (.imul, 1) := by decide +kernel
theorem dX4_beside_75 : decode cX4_beside 75 = .ok (.iload_n 3, 1) := by decide +kernel
theorem dX4_beside_76 : decode cX4_beside 76 = .ok (.iadd, 1) := by decide +kernel
theorem dX4_beside_77 : decode cX4_beside 77 = .ok (.baload, 1) := by decide +kernel
theorem dX4_beside_78 : decode cX4_beside 78 = .ok (.ifCond .ne 15, 3) := by decide +kernel
theorem dX4_beside_81 : decode cX4_beside 81 = .ok (.aload_n 0, 1) := by decide +kernel
theorem dX4_beside_82 : decode cX4_beside 82 = .ok (.getfield 52, 3) := by decide +kernel
theorem dX4_beside_85 : decode cX4_beside 85 = .ok (.iload 4, 2) := by decide +kernel
theorem dX4_beside_87 : decode cX4_beside 87 = .ok (.imul, 1) := by decide +kernel
theorem dX4_beside_88 : decode cX4_beside 88 = .ok (.iload_n 3, 1) := by decide +kernel
theorem dX4_beside_89 : decode cX4_beside 89 = .ok (.iadd, 1) := by decide +kernel
theorem dX4_beside_90 : decode cX4_beside 90 = .ok (.goto 4, 3) := by decide +kernel
theorem dX4_beside_93 : decode cX4_beside 93 = .ok (.iconst (-1), 1) := by decide +kernel
theorem dX4_beside_94 : decode cX4_beside 94 = .ok (.ireturn, 1) := by decide +kernel
theorem dX4_look_0 : decode cX4_look 0 = .ok (.aload_n 0, 1) := by decide +kernel
theorem dX4_look_1 : decode cX4_look 1 = .ok (.aload_n 0, 1) := by decide +kernel
theorem dX4_look_2 : decode cX4_look 2 = .ok (.getfield 77, 3) := by decide +kernel
theorem dX4_look_5 : decode cX4_look 5 = .ok (.putfield 87, 3) := by decide +kernel
theorem dX4_look_8 : decode cX4_look 8 = .ok (.aload_n 0, 1) := by decide +kernel
theorem dX4_look_9 : decode cX4_look 9 = .ok (.aload_n 0, 1) := by decide +kernel
theorem dX4_look_10 : decode cX4_look 10 = .ok (.getfield 62, 3) := by decide +kernel
theorem dX4_look_13 : decode cX4_look 13 = .ok (.putfield 90, 3) := by decide +kernel
theorem dX4_look_16 : decode cX4_look 16 = .ok (.aload_n 0, 1) := by decide +kernel
theorem dX4_look_17 : decode cX4_look 17 = .ok (.aload_n 0, 1) := by decide +kernel
theorem dX4_look_18 : decode cX4_look 18 = .ok (.getfield 65, 3) := by decide +kernel
theorem dX4_look_21 : decode cX4_look 21 = .ok (.putfield 93, 3) := by decide +kernel
theorem dX4_look_24 : decode cX4_look 24 = .ok (.aload_n 0, 1) := by decide +kernel
theorem dX4_look_25 : decode cX4_look 25 = .ok (.aload_n 0, 1) := by decide +kernel
theorem dX4_look_26 : decode cX4_look 26 = .ok (.getfield 68, 3) := by decide +kernel
theorem dX4_look_29 : decode cX4_look 29 = .ok (.putfield 96, 3) := by decide +kernel
theorem dX4_look_32 : decode cX4_look 32 = .ok (.return_, 1) := by decide +kernel
theorem dX4_lookFirst_0 : decode cX4_lookFirst 0 = .ok (.aload_n 0, 1) := by decide +kernel
theorem dX4_lookFirst_1 : decode cX4_lookFirst 1 = .ok (.iload_n 1, 1) := by decide +kernel
theorem dX4_lookFirst_2 : decode cX4_lookFirst 2 = .ok (.putfield 87, 3) := by decide +kernel
theorem dX4_lookFirst_5 : decode cX4_lookFirst 5 = .ok (.aload_n 0, 1) := by decide +kernel
theorem dX4_lookFirst_6 : decode cX4_lookFirst 6 = .ok (.iconst 1, 1) := by decide +kernel
theorem dX4_lookFirst_7 : decode cX4_lookFirst 7 = .ok (.putfield 90, 3) := by decide +kernel
theorem dX4_lookFirst_10 : decode cX4_lookFirst 10 = .ok (.aload_n 0, 1) := by decide +kernel
theorem dX4_lookFirst_11 : decode cX4_lookFirst 11 = .ok (.iconst 2, 1) := by decide +kernel
theorem dX4_lookFirst_12 : decode cX4_lookFirst 12 = .ok (.putfield 93, 3) := by decide +kernel
theorem dX4_lookFirst_15 : decode cX4_lookFirst 15 = .ok (.aload_n 0, 1) := by decide +kernel
theorem dX4_lookFirst_16 : decode cX4_lookFirst 16 = .ok (.iconst 3, 1) := by decide +kernel
theorem dX4_lookFirst_17 : decode cX4_lookFirst 17 = .ok (.putfield 96, 3) := by decide +kernel
theorem dX4_lookFirst_20 : decode cX4_lookFirst 20 = .ok (.return_, 1) := by decide +kernel
theorem dX4_lookAt_0 : decode cX4_lookAt 0 = .ok (.aload_n 0, 1) := by decide +kernel
theorem dX4_lookAt_1 : decode cX4_lookAt 1 = .ok (.aload_n 0, 1) := by decide +kernel
theorem dX4_lookAt_2 : decode cX4_lookAt 2 = .ok (.getfield 26, 3) := by decide +kernel
theorem dX4_lookAt_5 : decode cX4_lookAt 5 = .ok (.iload_n 1, 1) := by decide +kernel
theorem dX4_lookAt_6 : decode cX4_lookAt 6 = .ok (.iaload, 1) := by decide +kernel
theorem dX4_lookAt_7 : decode cX4_lookAt 7 = .ok (.putfield 87, 3) := by decide +kernel
theorem dX4_lookAt_10 : decode cX4_lookAt 10 = .ok (.aload_n 0, 1) := by decide +kernel
theorem dX4_lookAt_11 : decode cX4_lookAt 11 = .ok (.aload_n 0, 1) := by decide +kernel
theorem dX4_lookAt_12 : decode cX4_lookAt 12 = .ok (.getfield 29, 3) := by decide +kernel
theorem dX4_lookAt_15 : decode cX4_lookAt 15 = .ok (.iload_n 1, 1) := by decide +kernel
theorem dX4_lookAt_16 : decode cX4_lookAt 16 = .ok (.iaload, 1) := by decide +kernel
theorem dX4_lookAt_17 : decode cX4_lookAt 17 = .ok (.putfield 90, 3) := by decide +kernel
theorem dX4_lookAt_20 : decode cX4_lookAt 20 = .ok (.aload_n 0, 1) := by decide +kernel
theorem dX4_lookAt_21 : decode cX4_lookAt 21 = .ok (.aload_n 0, 1) := by decide +kernel
theorem dX4_lookAt_22 : decode cX4_lookAt 22 = .ok (.getfield 32, 3) := by decide +kernel
theorem dX4_lookAt_25 : decode cX4_lookAt 25 = .ok (.iload_n 1, 1) := by decide +kernel
theorem dX4_lookAt_26 : decode cX4_lookAt 26 = .ok (.iaload, 1) := by decide +kernel
theorem dX4_lookAt_27 : decode cX4_lookAt 27 = .ok (.putfield 93, 3) := by decide +kernel
theorem dX4_lookAt_30 : decode cX4_lookAt 30 = .ok (.aload_n 0, 1) := by decide +kernel
theorem dX4_lookAt_31 : decode cX4_lookAt 31 = .ok (.aload_n 0, 1) := by decide +kernel
theorem dX4_lookAt_32 : decode cX4_lookAt 32 = .ok (.getfield 35, 3) := by decide +kernel
theorem dX4_lookAt_35 : decode cX4_lookAt 35 = .ok (.iload_n 1, 1) := by decide +kernel
theorem dX4_lookAt_36 : decode cX4_lookAt 36 = .ok (.iaload, 1) := by decide +kernel
theorem dX4_lookAt_37 : decode cX4_lookAt 37 = .ok (.putfield 96, 3) := by decide +kernel
theorem dX4_lookAt_40 : decode cX4_lookAt 40 = .ok (.return_, 1) := by decide +kernel
theorem dX4_tip_0 : decode cX4_tip 0 = .ok (.aload_n 0, 1) := by decide +kernel
theorem dX4_tip_1 : decode cX4_tip 1 = .ok (.getfield 90, 3) := by decide +kernel
theorem dX4_tip_4 : decode cX4_tip 4 = .ok (.istore_n 3, 1) := by decide +kernel
theorem dX4_tip_5 : decode cX4_tip 5 = .ok (.aload_n 0, 1) := by decide +kernel
theorem dX4_tip_6 : decode cX4_tip 6 = .ok (.iload_n 2, 1) := by decide +kernel
theorem dX4_tip_7 : decode cX4_tip 7 = .ok (.putfield 87, 3) := by decide +kernel
theorem dX4_tip_10 : decode cX4_tip 10 = .ok (.iload_n 1, 1) := by decide +kernel
theorem dX4_tip_11 : decode cX4_tip 11 = .ok (.tableswitch 76 0 2 #[25, 42, 59], 25) := by decide +kernel
theorem dX4_tip_36 : decode cX4_tip 36 = .ok (.aload_n 0, 1) := by decide +kernel
theorem dX4_tip_37 : decode cX4_tip 37 = .ok (.bipush 7, 2) := by decide +kernel
theorem dX4_tip_39 : decode cX4_tip 39 = .ok (.aload_n 0, 1) := by decide +kernel
theorem dX4_tip_40 : decode cX4_tip 40 = .ok (.getfield 93, 3) := by decide +kernel
theorem dX4_tip_43 : decode cX4_tip 43 = .ok (.isub, 1) := by decide +kernel
theorem dX4_tip_44 : decode cX4_tip 44 = .ok (.putfield 90, 3) := by decide +kernel
theorem dX4_tip_47 : decode cX4_tip 47 = .ok (.aload_n 0, 1) := by decide +kernel
theorem dX4_tip_48 : decode cX4_tip 48 = .ok (.iload_n 3, 1) := by decide +kernel
theorem dX4_tip_49 : decode cX4_tip 49 = .ok (.putfield 93, 3) := by decide +kernel
theorem dX4_tip_52 : decode cX4_tip 52 = .ok (.return_, 1) := by decide +kernel
theorem dX4_tip_53 : decode cX4_tip 53 = .ok (.aload_n 0, 1) := by decide +kernel
theorem dX4_tip_54 : decode cX4_tip 54 = .ok (.bipush 7, 2) := by decide +kernel
theorem dX4_tip_56 : decode cX4_tip 56 = .ok (.aload_n 0, 1) := by decide +kernel
theorem dX4_tip_57 : decode cX4_tip 57 = .ok (.getfield 96, 3) := by decide +kernel
theorem dX4_tip_60 : decode cX4_tip 60 = .ok (.isub, 1) := by decide +kernel
theorem dX4_tip_61 : decode cX4_tip 61 = .ok (.putfield 90, 3) := by decide +kernel
theorem dX4_tip_64 : decode cX4_tip 64 = .ok (.aload_n 0, 1) := by decide +kernel
theorem dX4_tip_65 : decode cX4_tip 65 = .ok (.iload_n 3, 1) := by decide +kernel
theorem dX4_tip_66 : decode cX4_tip 66 = .ok (.putfield 96, 3) := by decide +kernel
theorem dX4_tip_69 : decode cX4_tip 69 = .ok (.return_, 1) := by decide +kernel
theorem dX4_tip_70 : decode cX4_tip 70 = .ok (.aload_n 0, 1) := by decide +kernel
theorem dX4_tip_71 : decode cX4_tip 71 = .ok (.aload_n 0, 1) := by decide +kernel
theorem dX4_tip_72 : decode cX4_tip 72 = .ok (.getfield 93, 3) := by decide +kernel
theorem dX4_tip_75 : decode cX4_tip 75 = .ok (.putfield 90, 3) := by decide +kernel
theorem dX4_tip_78 : decode cX4_tip 78 = .ok (.aload_n 0, 1) := by decide +kernel
theorem dX4_tip_79 : decode cX4_tip 79 = .ok (.bipush 7, 2) := by decide +kernel
theorem dX4_tip_81 : decode cX4_tip 81 = .ok (.iload_n 3, 1) := by decide +kernel
theorem dX4_tip_82 : decode cX4_tip 82 = .ok (.isub, 1) := by decide +kernel
theorem dX4_tip_83 : decode cX4_tip 83 = .ok (.putfield 93, 3) := by decide +kernel
theorem dX4_tip_86 : decode cX4_tip 86 = .ok (.return_, 1) := by decide +kernel
theorem dX4_tip_87 : decode cX4_tip 87 = .ok (.aload_n 0, 1) := by decide +kernel
theorem dX4_tip_88 : decode cX4_tip 88 = .ok (.aload_n 0, 1) := by decide +kernel
theorem dX4_tip_89 : decode cX4_tip 89 = .ok (.getfield 96, 3) := by decide +kernel
theorem dX4_tip_92 : decode cX4_tip 92 = .ok (.putfield 90, 3) := by decide +kernel
theorem dX4_tip_95 : decode cX4_tip 95 = .ok (.aload_n 0, 1) := by decide +kernel
theorem dX4_tip_96 : decode cX4_tip 96 = .ok (.bipush 7, 2) := by decide +kernel
theorem dX4_tip_98 : decode cX4_tip 98 = .ok (.iload_n 3, 1) := by decide +kernel
theorem dX4_tip_99 : decode cX4_tip 99 = .ok (.isub, 1) := by decide +kernel
theorem dX4_tip_100 : decode cX4_tip 100 = .ok (.putfield 96, 3) := by decide +kernel
theorem dX4_tip_103 : decode cX4_tip 103 = .ok (.return_, 1) := by decide +kernel
set_option maxRecDepth 20000 in
theorem ggX4_rolled_X4_beside : GoodIn wsX4_rolled wsX4_beside := goodIn_r _ [18, 19, 20, 21, 22, 23, 17, 24, 25, 26, 27, 28, 37, 38, 39, 40, 41, 42, 43, 44, 45, 46, 47, 48, 49, 50, 51, 52, 53, 54, 55, 56, 57, 58, 59, 60, 61] (by decide +kernel) (by decide +kernel)
set_option maxRecDepth 20000 in
theorem gX4_rolled_X4_beside : GoodIn wsX4_rolled (wsV RX4 99 RX4 yX4_beside wsX4_beside) := goodIn_app (goodIn_of _ (by decide +kernel)) ggX4_rolled_X4_beside
set_option maxRecDepth 20000 in
theorem ggX4_rolled_X4_look : GoodIn wsX4_rolled wsX4_look := goodIn_r _ [32, 1, 2, 4, 3, 6, 5, 8, 7, 37, 38, 39, 40, 41, 42, 43, 44, 45, 46, 47, 48, 49, 50, 51, 52, 53, 54, 55, 56, 57, 58, 59, 60, 61] (by decide +kernel) (by decide +kernel)
set_option maxRecDepth 20000 in
theorem gX4_rolled_X4_look : GoodIn wsX4_rolled (wsV RX4 103 RX4 yX4_look wsX4_look) := goodIn_app (goodIn_of _ (by decide +kernel)) ggX4_rolled_X4_look
set_option maxRecDepth 20000 in
theorem ggX4_rolled_X4_tip : GoodIn wsX4_rolled wsX4_tip := goodIn_r _ [36, 3, 2, 5, 7, 37, 38, 39, 40, 41, 42, 43, 44, 45, 46, 47, 48, 49, 50, 51, 52, 53, 54, 55, 56, 57, 58, 59, 60, 61] (by decide +kernel) (by decide +kernel)
set_option maxRecDepth 20000 in
theorem gX4_rolled_X4_tip : GoodIn wsX4_rolled (wsV RX4 106 RX4 yX4_tip wsX4_tip) := goodIn_app (goodIn_of _ (by decide +kernel)) ggX4_rolled_X4_tip
theorem dX4_rolled_0 : decode cX4_rolled 0 = .ok (.aload_n 0, 1) := by decide +kernel
theorem dX4_rolled_1 : decode cX4_rolled 1 = .ok (.aload_n 0, 1) := by decide +kernel
theorem dX4_rolled_2 : decode cX4_rolled 2 = .ok (.getfield 77, 3) := by decide +kernel
theorem dX4_rolled_5 : decode cX4_rolled 5 = .ok (.iload_n 1, 1) := by decide +kernel
theorem dX4_rolled_6 : decode cX4_rolled 6 = .ok (.invokevirtual 99, 3) := by decide +kernel
theorem dX4_rolled_9 : decode cX4_rolled 9 = .ok (.istore_n 2, 1) := by decide +kernel
theorem dX4_rolled_10 : decode cX4_rolled 10 = .ok (.iload_n 2, 1) := by decide +kernel
theorem dX4_rolled_11 : decode cX4_rolled 11 = .ok (.iconst (-1), 1) := by decide +kernel
theorem dX4_rolled_12 : decode cX4_rolled 12 = .ok (.if_icmp .ne 5, 3) := by decide +kernel
theorem dX4_rolled_15 : decode cX4_rolled 15 = .ok (.iconst 0, 1) := by decide +kernel
theorem dX4_rolled_16 : decode cX4_rolled 16 = .ok (.ireturn, 1) := by decide +kernel
theorem dX4_rolled_17 : decode cX4_rolled 17 = .ok (.aload_n 0, 1) := by decide +kernel
theorem dX4_rolled_18 : decode cX4_rolled 18 = .ok (.invokevirtual 103, 3) := by decide +kernel
theorem dX4_rolled_21 : decode cX4_rolled 21 = .ok (.aload_n 0, 1) := by decide +kernel
theorem dX4_rolled_22 : decode cX4_rolled 22 = .ok (.iload_n 1, 1) := by decide +kernel
theorem dX4_rolled_23 : decode cX4_rolled 23 = .ok (.iload_n 2, 1) := by decide +kernel
theorem dX4_rolled_24 : decode cX4_rolled 24 = .ok (.invokevirtual 106, 3) := by decide +kernel
theorem dX4_rolled_27 : decode cX4_rolled 27 = .ok (.aload_n 0, 1) := by decide +kernel
theorem dX4_rolled_28 : decode cX4_rolled 28 = .ok (.aload_n 0, 1) := by decide +kernel
theorem dX4_rolled_29 : decode cX4_rolled 29 = .ok (.getfield 87, 3) := by decide +kernel
theorem dX4_rolled_32 : decode cX4_rolled 32 = .ok (.putfield 77, 3) := by decide +kernel
theorem dX4_rolled_35 : decode cX4_rolled 35 = .ok (.aload_n 0, 1) := by decide +kernel
theorem dX4_rolled_36 : decode cX4_rolled 36 = .ok (.aload_n 0, 1) := by decide +kernel
theorem dX4_rolled_37 : decode cX4_rolled 37 = .ok (.getfield 90, 3) := by decide +kernel
theorem dX4_rolled_40 : decode cX4_rolled 40 = .ok (.putfield 62, 3) := by decide +kernel
theorem dX4_rolled_43 : decode cX4_rolled 43 = .ok (.aload_n 0, 1) := by decide +kernel
theorem dX4_rolled_44 : decode cX4_rolled 44 = .ok (.aload_n 0, 1) := by decide +kernel
theorem dX4_rolled_45 : decode cX4_rolled 45 = .ok (.getfield 93, 3) := by decide +kernel
theorem dX4_rolled_48 : decode cX4_rolled 48 = .ok (.putfield 65, 3) := by decide +kernel
theorem dX4_rolled_51 : decode cX4_rolled 51 = .ok (.aload_n 0, 1) := by decide +kernel
theorem dX4_rolled_52 : decode cX4_rolled 52 = .ok (.aload_n 0, 1) := by decide +kernel
theorem dX4_rolled_53 : decode cX4_rolled 53 = .ok (.getfield 96, 3) := by decide +kernel
theorem dX4_rolled_56 : decode cX4_rolled 56 = .ok (.putfield 68, 3) := by decide +kernel
theorem dX4_rolled_59 : decode cX4_rolled 59 = .ok (.aload_n 0, 1) := by decide +kernel
theorem dX4_rolled_60 : decode cX4_rolled 60 = .ok (.dup, 1) := by decide +kernel
theorem dX4_rolled_61 : decode cX4_rolled 61 = .ok (.getfield 71, 3) := by decide +kernel
theorem dX4_rolled_64 : decode cX4_rolled 64 = .ok (.iconst 1, 1) := by decide +kernel
theorem dX4_rolled_65 : decode cX4_rolled 65 = .ok (.iadd, 1) := by decide +kernel
theorem dX4_rolled_66 : decode cX4_rolled 66 = .ok (.putfield 71, 3) := by decide +kernel
theorem dX4_rolled_69 : decode cX4_rolled 69 = .ok (.bipush 7, 2) := by decide +kernel
theorem dX4_rolled_71 : decode cX4_rolled 71 = .ok (.aload_n 0, 1) := by decide +kernel
theorem dX4_rolled_72 : decode cX4_rolled 72 = .ok (.getfield 62, 3) := by decide +kernel
theorem dX4_rolled_75 : decode cX4_rolled 75 = .ok (.isub, 1) := by decide +kernel
theorem dX4_rolled_76 : decode cX4_rolled 76 = .ok (.istore_n 3, 1) := by decide +kernel
theorem dX4_rolled_77 : decode cX4_rolled 77 = .ok (.aload_n 0, 1) := by decide +kernel
theorem dX4_rolled_78 : decode cX4_rolled 78 = .ok (.getfield 20, 3) := by decide +kernel
theorem dX4_rolled_81 : decode cX4_rolled 81 = .ok (.iload_n 3, 1) := by decide +kernel
theorem dX4_rolled_82 : decode cX4_rolled 82 = .ok (.iaload, 1) := by decide +kernel
theorem dX4_rolled_83 : decode cX4_rolled 83 = .ok (.ifCond .le 38, 3) := by decide +kernel
theorem dX4_rolled_86 : decode cX4_rolled 86 = .ok (.aload_n 0, 1) := by decide +kernel
theorem dX4_rolled_87 : decode cX4_rolled 87 = .ok (.getfield 20, 3) := by decide +kernel
theorem dX4_rolled_90 : decode cX4_rolled 90 = .ok (.iload_n 3, 1) := by decide +kernel
theorem dX4_rolled_91 : decode cX4_rolled 91 = .ok (.dup2, 1) := by decide +kernel
theorem dX4_rolled_92 : decode cX4_rolled 92 = .ok (.iaload, 1) := by decide +kernel
theorem dX4_rolled_93 : decode cX4_rolled 93 = .ok (.iconst 1, 1) := by decide +kernel
theorem dX4_rolled_94 : decode cX4_rolled 94 = .ok (.isub, 1) := by decide +kernel
theorem dX4_rolled_95 : decode cX4_rolled 95 = .ok (.iastore, 1) := by decide +kernel
theorem dX4_rolled_96 : decode cX4_rolled 96 = .ok (.aload_n 0, 1) := by decide +kernel
theorem dX4_rolled_97 : decode cX4_rolled 97 = .ok (.getfield 13, 3) := by decide +kernel
theorem dX4_rolled_100 : decode cX4_rolled 100 = .ok (.aload_n 0, 1) := by decide +kernel
theorem dX4_rolled_101 : decode cX4_rolled 101 = .ok (.getfield 77, 3) := by decide +kernel
theorem dX4_rolled_104 : decode cX4_rolled 104 = .ok (.aload_n 0, 1) := by decide +kernel
theorem dX4_rolled_105 : decode cX4_rolled 105 = .ok (.getfield 17, 3) := by decide +kernel
theorem dX4_rolled_108 : decode cX4_rolled 108 = .ok (.iload_n 3, 1) := by decide +kernel
theorem dX4_rolled_109 : decode cX4_rolled 109 = .ok (.iaload, 1) := by decide +kernel
theorem dX4_rolled_110 : decode cX4_rolled 110 = .ok (.iastore, 1) := by decide +kernel
theorem dX4_rolled_111 : decode cX4_rolled 111 = .ok (.aload_n 0, 1) := by decide +kernel
theorem dX4_rolled_112 : decode cX4_rolled 112 = .ok (.dup, 1) := by decide +kernel
theorem dX4_rolled_113 : decode cX4_rolled 113 = .ok (.getfield 74, 3) := by decide +kernel
theorem dX4_rolled_116 : decode cX4_rolled 116 = .ok (.iconst 1, 1) := by decide +kernel
theorem dX4_rolled_117 : decode cX4_rolled 117 = .ok (.iadd, 1) := by decide +kernel
theorem dX4_rolled_118 : decode cX4_rolled 118 = .ok (.putfield 74, 3) := by decide +kernel
theorem dX4_rolled_121 : decode cX4_rolled 121 = .ok (.iconst 1, 1) := by decide +kernel
theorem dX4_rolled_122 : decode cX4_rolled 122 = .ok (.ireturn, 1) := by decide +kernel
set_option maxRecDepth 20000 in
theorem ggX4_newBoard_X4_isIn : GoodIn wsX4_newBoard wsX4_isIn := goodIn_r _ [7] (by decide +kernel) (by decide +kernel)
set_option maxRecDepth 20000 in
theorem gX4_newBoard_X4_isIn : GoodIn wsX4_newBoard (va_wsS RX4 55 yX4_isIn wsX4_isIn) := goodIn_app (goodIn_of _ (by decide +kernel)) ggX4_newBoard_X4_isIn
set_option maxRecDepth 20000 in
theorem ggX4_newBoard_X4_no : GoodIn wsX4_newBoard wsX4_no := goodIn_r _ [11, 1, 28, 29, 30, 31, 32, 33, 34, 35, 36, 37, 38, 39, 40, 41, 42, 43, 44, 45, 46, 47, 48, 49, 50, 51, 52] (by decide +kernel) (by decide +kernel)
set_option maxRecDepth 20000 in
theorem gX4_newBoard_X4_no : GoodIn wsX4_newBoard (wsV RX4 109 RX4 yX4_no wsX4_no) := goodIn_app (goodIn_of _ (by decide +kernel)) ggX4_newBoard_X4_no
set_option maxRecDepth 20000 in
theorem ggX4_newBoard_X4_take : GoodIn wsX4_newBoard wsX4_take := goodIn_r _ [15, 2, 3, 16, 17, 18, 19, 20, 21, 22, 23, 6, 24, 25, 26, 27, 28, 29, 30, 31, 32, 33, 34, 35, 36, 37, 38, 39, 40, 41, 42, 43, 44, 45, 46, 47, 48, 49, 50, 51, 52] (by decide +kernel) (by decide +kernel)
set_option maxRecDepth 20000 in
theorem gX4_newBoard_X4_take : GoodIn wsX4_newBoard (wsV RX4 44 RX4 yX4_take wsX4_take) := goodIn_app (goodIn_of _ (by decide +kernel)) ggX4_newBoard_X4_take
theorem dX4_newBoard_0 : decode cX4_newBoard 0 = .ok (.aload_n 0, 1) := by decide +kernel
theorem dX4_newBoard_1 : decode cX4_newBoard 1 = .ok (.iconst 0, 1) := by decide +kernel
theorem dX4_newBoard_2 : decode cX4_newBoard 2 = .ok (.putfield 48, 3) := by decide +kernel
theorem dX4_newBoard_5 : decode cX4_newBoard 5 = .ok (.iload_n 1, 1) := by decide +kernel
theorem dX4_newBoard_6 : decode cX4_newBoard 6 = .ok (.iconst 2, 1) := by decide +kernel
theorem dX4_newBoard_7 : decode cX4_newBoard 7 = .ok (.bipush 7, 2) := by decide +kernel
theorem dX4_newBoard_9 : decode cX4_newBoard 9 = .ok (.invokestatic 55, 3) := by decide +kernel
theorem dX4_newBoard_12 : decode cX4_newBoard 12 = .ok (.ifCond .eq 13, 3) := by decide +kernel
theorem dX4_newBoard_15 : decode cX4_newBoard 15 = .ok (.iload_n 2, 1) := by decide +kernel
theorem dX4_newBoard_16 : decode cX4_newBoard 16 = .ok (.iconst 2, 1) := by decide +kernel
theorem dX4_newBoard_17 : decode cX4_newBoard 17 = .ok (.bipush 7, 2) := by decide +kernel
theorem dX4_newBoard_19 : decode cX4_newBoard 19 = .ok (.invokestatic 55, 3) := by decide +kernel
theorem dX4_newBoard_22 : decode cX4_newBoard 22 = .ok (.ifCond .ne 9, 3) := by decide +kernel
theorem dX4_newBoard_25 : decode cX4_newBoard 25 = .ok (.aload_n 0, 1) := by decide +kernel
theorem dX4_newBoard_26 : decode cX4_newBoard 26 = .ok (.iconst 1, 1) := by decide +kernel
theorem dX4_newBoard_27 : decode cX4_newBoard 27 = .ok (.invokevirtual 109, 3) := by decide +kernel
theorem dX4_newBoard_30 : decode cX4_newBoard 30 = .ok (.ireturn, 1) := by decide +kernel
theorem dX4_newBoard_31 : decode cX4_newBoard 31 = .ok (.aload_n 0, 1) := by decide +kernel
theorem dX4_newBoard_32 : decode cX4_newBoard 32 = .ok (.iload_n 1, 1) := by decide +kernel
theorem dX4_newBoard_33 : decode cX4_newBoard 33 = .ok (.iload_n 2, 1) := by decide +kernel
theorem dX4_newBoard_34 : decode cX4_newBoard 34 = .ok (.invokevirtual 44, 3) := by decide +kernel
theorem dX4_newBoard_37 : decode cX4_newBoard 37 = .ok (.aload_n 0, 1) := by decide +kernel
theorem dX4_newBoard_38 : decode cX4_newBoard 38 = .ok (.getfield 52, 3) := by decide +kernel
theorem dX4_newBoard_41 : decode cX4_newBoard 41 = .ok (.aload_n 0, 1) := by decide +kernel
theorem dX4_newBoard_42 : decode cX4_newBoard 42 = .ok (.getfield 59, 3) := by decide +kernel
theorem dX4_newBoard_45 : decode cX4_newBoard 45 = .ok (.imul, 1) := by decide +kernel
theorem dX4_newBoard_46 : decode cX4_newBoard 46 = .ok (.ireturn, 1) := by decide +kernel
set_option maxRecDepth 20000 in
theorem ggX4_turnWall_X4_isCell : GoodIn wsX4_turnWall wsX4_isCell := goodIn_r _ [9, 2, 10, 11, 12, 8, 13, 18, 19, 20, 21, 22, 23, 24, 25, 26, 27, 28, 29, 30, 31, 32, 33, 34, 35, 36, 37, 38, 39, 40, 41, 42] (by decide +kernel) (by decide +kernel)
set_option maxRecDepth 20000 in
theorem gX4_turnWall_X4_isCell : GoodIn wsX4_turnWall (wsV RX4 83 RX4 yX4_isCell wsX4_isCell) := goodIn_app (goodIn_of _ (by decide +kernel)) ggX4_turnWall_X4_isCell
set_option maxRecDepth 20000 in
theorem ggX4_turnWall_X4_isNot : GoodIn wsX4_turnWall wsX4_isNot := goodIn_r _ [17, 1, 18, 19, 20, 21, 22, 23, 24, 25, 26, 27, 28, 29, 30, 31, 32, 33, 34, 35, 36, 37, 38, 39, 40, 41, 42] (by decide +kernel) (by decide +kernel)
set_option maxRecDepth 20000 in
theorem gX4_turnWall_X4_isNot : GoodIn wsX4_turnWall (wsV RX4 113 RX4 yX4_isNot wsX4_isNot) := goodIn_app (goodIn_of _ (by decide +kernel)) ggX4_turnWall_X4_isNot
theorem dX4_turnWall_0 : decode cX4_turnWall 0 = .ok (.aload_n 0, 1) := by decide +kernel
theorem dX4_turnWall_1 : decode cX4_turnWall 1 = .ok (.iconst 0, 1) := by decide +kernel
theorem dX4_turnWall_2 : decode cX4_turnWall 2 = .ok (.putfield 48, 3) := by decide +kernel
theorem dX4_turnWall_5 : decode cX4_turnWall 5 = .ok (.aload_n 0, 1) := by decide +kernel
theorem dX4_turnWall_6 : decode cX4_turnWall 6 = .ok (.iload_n 1, 1) := by decide +kernel
theorem dX4_turnWall_7 : decode cX4_turnWall 7 = .ok (.iload_n 2, 1) := by decide +kernel
theorem dX4_turnWall_8 : decode cX4_turnWall 8 = .ok (.invokevirtual 83, 3) := by decide +kernel
theorem dX4_turnWall_11 : decode cX4_turnWall 11 = .ok (.ifCond .ne 9, 3) := by decide +kernel
theorem dX4_turnWall_14 : decode cX4_turnWall 14 = .ok (.aload_n 0, 1) := by decide +kernel
theorem dX4_turnWall_15 : decode cX4_turnWall 15 = .ok (.iconst 1, 1) := by decide +kernel
theorem dX4_turnWall_16 : decode cX4_turnWall 16 = .ok (.invokevirtual 113, 3) := by decide +kernel
theorem dX4_turnWall_19 : decode cX4_turnWall 19 = .ok (.ireturn, 1) := by decide +kernel
theorem dX4_turnWall_20 : decode cX4_turnWall 20 = .ok (.aload_n 0, 1) := by decide +kernel
theorem dX4_turnWall_21 : decode cX4_turnWall 21 = .ok (.getfield 52, 3) := by decide +kernel
theorem dX4_turnWall_24 : decode cX4_turnWall 24 = .ok (.iload_n 2, 1) := by decide +kernel
theorem dX4_turnWall_25 : decode cX4_turnWall 25 = .ok (.imul, 1) := by decide +kernel
theorem dX4_turnWall_26 : decode cX4_turnWall 26 = .ok (.iload_n 1, 1) := by decide +kernel
theorem dX4_turnWall_27 : decode cX4_turnWall 27 = .ok (.iadd, 1) := by decide +kernel
theorem dX4_turnWall_28 : decode cX4_turnWall 28 = .ok (.istore_n 3, 1) := by decide +kernel
theorem dX4_turnWall_29 : decode cX4_turnWall 29 = .ok (.iload_n 3, 1) := by decide +kernel
theorem dX4_turnWall_30 : decode cX4_turnWall 30 = .ok (.aload_n 0, 1) := by decide +kernel
theorem dX4_turnWall_31 : decode cX4_turnWall 31 = .ok (.getfield 77, 3) := by decide +kernel
theorem dX4_turnWall_34 : decode cX4_turnWall 34 = .ok (.if_icmp .ne 9, 3) := by decide +kernel
theorem dX4_turnWall_37 : decode cX4_turnWall 37 = .ok (.aload_n 0, 1) := by decide +kernel
theorem dX4_turnWall_38 : decode cX4_turnWall 38 = .ok (.iconst 2, 1) := by decide +kernel
theorem dX4_turnWall_39 : decode cX4_turnWall 39 = .ok (.invokevirtual 113, 3) := by decide +kernel
theorem dX4_turnWall_42 : decode cX4_turnWall 42 = .ok (.ireturn, 1) := by decide +kernel
theorem dX4_turnWall_43 : decode cX4_turnWall 43 = .ok (.aload_n 0, 1) := by decide +kernel
theorem dX4_turnWall_44 : decode cX4_turnWall 44 = .ok (.getfield 9, 3) := by decide +kernel
theorem dX4_turnWall_47 : decode cX4_turnWall 47 = .ok (.iload_n 3, 1) := by decide +kernel
theorem dX4_turnWall_48 : decode cX4_turnWall 48 = .ok (.aload_n 0, 1) := by decide +kernel
theorem dX4_turnWall_49 : decode cX4_turnWall 49 = .ok (.getfield 9, 3) := by decide +kernel
theorem dX4_turnWall_52 : decode cX4_turnWall 52 = .ok (.iload_n 3, 1) := by decide +kernel
theorem dX4_turnWall_53 : decode cX4_turnWall 53 = .ok (.baload, 1) := by decide +kernel
theorem dX4_turnWall_54 : decode cX4_turnWall 54 = .ok (.ifCond .ne 7, 3) := by decide +kernel
theorem dX4_turnWall_57 : decode cX4_turnWall 57 = .ok (.iconst 1, 1) := by decide +kernel
theorem dX4_turnWall_58 : decode cX4_turnWall 58 = .ok (.goto 4, 3) := by decide +kernel
theorem dX4_turnWall_61 : decode cX4_turnWall 61 = .ok (.iconst 0, 1) := by decide +kernel
theorem dX4_turnWall_62 : decode cX4_turnWall 62 = .ok (.bastore, 1) := by decide +kernel
theorem dX4_turnWall_63 : decode cX4_turnWall 63 = .ok (.aload_n 0, 1) := by decide +kernel
theorem dX4_turnWall_64 : decode cX4_turnWall 64 = .ok (.getfield 9, 3) := by decide +kernel
theorem dX4_turnWall_67 : decode cX4_turnWall 67 = .ok (.iload_n 3, 1) := by decide +kernel
theorem dX4_turnWall_68 : decode cX4_turnWall 68 = .ok (.baload, 1) := by decide +kernel
theorem dX4_turnWall_69 : decode cX4_turnWall 69 = .ok (.ireturn, 1) := by decide +kernel
set_option maxRecDepth 20000 in
theorem ggX4_setColour_X4_isFace : GoodIn wsX4_setColour wsX4_isFace := goodIn_r _ [6, 7, 8, 5, 9] (by decide +kernel) (by decide +kernel)
set_option maxRecDepth 20000 in
theorem gX4_setColour_X4_isFace : GoodIn wsX4_setColour (va_wsS RX4 117 yX4_isFace wsX4_isFace) := goodIn_app (goodIn_of _ (by decide +kernel)) ggX4_setColour_X4_isFace
set_option maxRecDepth 20000 in
theorem ggX4_setColour_X4_no : GoodIn wsX4_setColour wsX4_no := goodIn_r _ [13, 1, 14, 15, 16, 17, 18, 19, 20, 21, 22, 23, 24, 25, 26, 27, 28, 29, 30, 31, 32, 33, 34, 35, 36, 37, 38] (by decide +kernel) (by decide +kernel)
set_option maxRecDepth 20000 in
theorem gX4_setColour_X4_no : GoodIn wsX4_setColour (wsV RX4 109 RX4 yX4_no wsX4_no) := goodIn_app (goodIn_of _ (by decide +kernel)) ggX4_setColour_X4_no
set_option maxRecDepth 20000 in
theorem ggX4_setColour_X4_isIn : GoodIn wsX4_setColour wsX4_isIn := goodIn_r _ [9] (by decide +kernel) (by decide +kernel)
set_option maxRecDepth 20000 in
theorem gX4_setColour_X4_isIn : GoodIn wsX4_setColour (va_wsS RX4 55 yX4_isIn wsX4_isIn) := goodIn_app (goodIn_of _ (by decide +kernel)) ggX4_setColour_X4_isIn
theorem dX4_setColour_0 : decode cX4_setColour 0 = .ok (.aload_n 0, 1) := by decide +kernel
theorem dX4_setColour_1 : decode cX4_setColour 1 = .ok (.iconst 0, 1) := by decide +kernel
theorem dX4_setColour_2 : decode cX4_setColour 2 = .ok (.putfield 48, 3) := by decide +kernel
theorem dX4_setColour_5 : decode cX4_setColour 5 = .ok (.iload_n 1, 1) := by decide +kernel
theorem dX4_setColour_6 : decode cX4_setColour 6 = .ok (.invokestatic 117, 3) := by decide +kernel
theorem dX4_setColour_9 : decode cX4_setColour 9 = .ok (.ifCond .ne 9, 3) := by decide +kernel
theorem dX4_setColour_12 : decode cX4_setColour 12 = .ok (.aload_n 0, 1) := by decide +kernel
theorem dX4_setColour_13 : decode cX4_setColour 13 = .ok (.iconst 1, 1) := by decide +kernel
theorem dX4_setColour_14 : decode cX4_setColour 14 = .ok (.invokevirtual 109, 3) := by decide +kernel
theorem dX4_setColour_17 : decode cX4_setColour 17 = .ok (.ireturn, 1) := by decide +kernel
theorem dX4_setColour_18 : decode cX4_setColour 18 = .ok (.iload_n 2, 1) := by decide +kernel
theorem dX4_setColour_19 : decode cX4_setColour 19 = .ok (.iconst 1, 1) := by decide +kernel
theorem dX4_setColour_20 : decode cX4_setColour 20 = .ok (.bipush 9, 2) := by decide +kernel
theorem dX4_setColour_22 : decode cX4_setColour 22 = .ok (.invokestatic 55, 3) := by decide +kernel
theorem dX4_setColour_25 : decode cX4_setColour 25 = .ok (.ifCond .ne 9, 3) := by decide +kernel
theorem dX4_setColour_28 : decode cX4_setColour 28 = .ok (.aload_n 0, 1) := by decide +kernel
theorem dX4_setColour_29 : decode cX4_setColour 29 = .ok (.iconst 2, 1) := by decide +kernel
theorem dX4_setColour_30 : decode cX4_setColour 30 = .ok (.invokevirtual 109, 3) := by decide +kernel
theorem dX4_setColour_33 : decode cX4_setColour 33 = .ok (.ireturn, 1) := by decide +kernel
theorem dX4_setColour_34 : decode cX4_setColour 34 = .ok (.aload_n 0, 1) := by decide +kernel
theorem dX4_setColour_35 : decode cX4_setColour 35 = .ok (.getfield 17, 3) := by decide +kernel
theorem dX4_setColour_38 : decode cX4_setColour 38 = .ok (.iload_n 1, 1) := by decide +kernel
theorem dX4_setColour_39 : decode cX4_setColour 39 = .ok (.iaload, 1) := by decide +kernel
theorem dX4_setColour_40 : decode cX4_setColour 40 = .ok (.istore_n 3, 1) := by decide +kernel
theorem dX4_setColour_41 : decode cX4_setColour 41 = .ok (.aload_n 0, 1) := by decide +kernel
theorem dX4_setColour_42 : decode cX4_setColour 42 = .ok (.getfield 17, 3) := by decide +kernel
theorem dX4_setColour_45 : decode cX4_setColour 45 = .ok (.iload_n 1, 1) := by decide +kernel
theorem dX4_setColour_46 : decode cX4_setColour 46 = .ok (.iload_n 2, 1) := by decide +kernel
theorem dX4_setColour_47 : decode cX4_setColour 47 = .ok (.iastore, 1) := by decide +kernel
theorem dX4_setColour_48 : decode cX4_setColour 48 = .ok (.iload_n 3, 1) := by decide +kernel
theorem dX4_setColour_49 : decode cX4_setColour 49 = .ok (.ireturn, 1) := by decide +kernel
set_option maxRecDepth 20000 in
theorem ggX4_addPaint_X4_isFace : GoodIn wsX4_addPaint wsX4_isFace := goodIn_r _ [10, 11, 12, 9, 13] (by decide +kernel) (by decide +kernel)
set_option maxRecDepth 20000 in
theorem gX4_addPaint_X4_isFace : GoodIn wsX4_addPaint (va_wsS RX4 117 yX4_isFace wsX4_isFace) := goodIn_app (goodIn_of _ (by decide +kernel)) ggX4_addPaint_X4_isFace
set_option maxRecDepth 20000 in
theorem ggX4_addPaint_X4_no : GoodIn wsX4_addPaint wsX4_no := goodIn_r _ [17, 1, 18, 19, 20, 21, 22, 23, 24, 25, 26, 27, 28, 29, 30, 31, 32, 33, 34, 35, 36, 37, 38, 39, 40, 41, 42] (by decide +kernel) (by decide +kernel)
set_option maxRecDepth 20000 in
theorem gX4_addPaint_X4_no : GoodIn wsX4_addPaint (wsV RX4 109 RX4 yX4_no wsX4_no) := goodIn_app (goodIn_of _ (by decide +kernel)) ggX4_addPaint_X4_no
set_option maxRecDepth 20000 in
theorem ggX4_addPaint_X4_isIn : GoodIn wsX4_addPaint wsX4_isIn := goodIn_r _ [13] (by decide +kernel) (by decide +kernel)
set_option maxRecDepth 20000 in
theorem gX4_addPaint_X4_isIn : GoodIn wsX4_addPaint (va_wsS RX4 55 yX4_isIn wsX4_isIn) := goodIn_app (goodIn_of _ (by decide +kernel)) ggX4_addPaint_X4_isIn
theorem dX4_addPaint_0 : decode cX4_addPaint 0 = .ok (.aload_n 0, 1) := by decide +kernel
theorem dX4_addPaint_1 : decode cX4_addPaint 1 = .ok (.iconst 0, 1) := by decide +kernel
theorem dX4_addPaint_2 : decode cX4_addPaint 2 = .ok (.putfield 48, 3) := by decide +kernel
theorem dX4_addPaint_5 : decode cX4_addPaint 5 = .ok (.iload_n 1, 1) := by decide +kernel
theorem dX4_addPaint_6 : decode cX4_addPaint 6 = .ok (.invokestatic 117, 3) := by decide +kernel
theorem dX4_addPaint_9 : decode cX4_addPaint 9 = .ok (.ifCond .ne 9, 3) := by decide +kernel
theorem dX4_addPaint_12 : decode cX4_addPaint 12 = .ok (.aload_n 0, 1) := by decide +kernel
theorem dX4_addPaint_13 : decode cX4_addPaint 13 = .ok (.iconst 1, 1) := by decide +kernel
theorem dX4_addPaint_14 : decode cX4_addPaint 14 = .ok (.invokevirtual 109, 3) := by decide +kernel
theorem dX4_addPaint_17 : decode cX4_addPaint 17 = .ok (.ireturn, 1) := by decide +kernel
theorem dX4_addPaint_18 : decode cX4_addPaint 18 = .ok (.iload_n 2, 1) := by decide +kernel
theorem dX4_addPaint_19 : decode cX4_addPaint 19 = .ok (.iconst 1, 1) := by decide +kernel
theorem dX4_addPaint_20 : decode cX4_addPaint 20 = .ok (.bipush 20, 2) := by decide +kernel
theorem dX4_addPaint_22 : decode cX4_addPaint 22 = .ok (.invokestatic 55, 3) := by decide +kernel
theorem dX4_addPaint_25 : decode cX4_addPaint 25 = .ok (.ifCond .ne 9, 3) := by decide +kernel
theorem dX4_addPaint_28 : decode cX4_addPaint 28 = .ok (.aload_n 0, 1) := by decide +kernel
theorem dX4_addPaint_29 : decode cX4_addPaint 29 = .ok (.iconst 2, 1) := by decide +kernel
theorem dX4_addPaint_30 : decode cX4_addPaint 30 = .ok (.invokevirtual 109, 3) := by decide +kernel
theorem dX4_addPaint_33 : decode cX4_addPaint 33 = .ok (.ireturn, 1) := by decide +kernel
theorem dX4_addPaint_34 : decode cX4_addPaint 34 = .ok (.aload_n 0, 1) := by decide +kernel
theorem dX4_addPaint_35 : decode cX4_addPaint 35 = .ok (.getfield 20, 3) := by decide +kernel
theorem dX4_addPaint_38 : decode cX4_addPaint 38 = .ok (.iload_n 1, 1) := by decide +kernel
theorem dX4_addPaint_39 : decode cX4_addPaint 39 = .ok (.bipush 20, 2) := by decide +kernel
theorem dX4_addPaint_41 : decode cX4_addPaint 41 = .ok (.aload_n 0, 1) := by decide +kernel
theorem dX4_addPaint_42 : decode cX4_addPaint 42 = .ok (.getfield 20, 3) := by decide +kernel
theorem dX4_addPaint_45 : decode cX4_addPaint 45 = .ok (.iload_n 1, 1) := by decide +kernel
theorem dX4_addPaint_46 : decode cX4_addPaint 46 = .ok (.iaload, 1) := by decide +kernel
theorem dX4_addPaint_47 : decode cX4_addPaint 47 = .ok (.iload_n 2, 1) := by decide +kernel
theorem dX4_addPaint_48 : decode cX4_addPaint 48 = .ok (.iadd, 1) := by decide +kernel
theorem dX4_addPaint_49 : decode cX4_addPaint 49 = .ok (.invokestatic 120, 3) := by decide +kernel
theorem dX4_addPaint_52 : decode cX4_addPaint 52 = .ok (.iastore, 1) := by decide +kernel
theorem dX4_addPaint_53 : decode cX4_addPaint 53 = .ok (.aload_n 0, 1) := by decide +kernel
theorem dX4_addPaint_54 : decode cX4_addPaint 54 = .ok (.getfield 20, 3) := by decide +kernel
theorem dX4_addPaint_57 : decode cX4_addPaint 57 = .ok (.iload_n 1, 1) := by decide +kernel
theorem dX4_addPaint_58 : decode cX4_addPaint 58 = .ok (.iaload, 1) := by decide +kernel
theorem dX4_addPaint_59 : decode cX4_addPaint 59 = .ok (.ireturn, 1) := by decide +kernel
set_option maxRecDepth 20000 in
theorem ggX4_put_X4_isCell : GoodIn wsX4_put wsX4_isCell := goodIn_r _ [13, 3, 14, 15, 16, 12, 17, 29, 30, 31, 32, 33, 34, 35, 36, 37, 38, 39, 40, 41, 42, 43, 44, 45, 46, 47, 48, 49, 50, 51, 52, 53] (by decide +kernel) (by decide +kernel)
set_option maxRecDepth 20000 in
theorem gX4_put_X4_isCell : GoodIn wsX4_put (wsV RX4 83 RX4 yX4_isCell wsX4_isCell) := goodIn_app (goodIn_of _ (by decide +kernel)) ggX4_put_X4_isCell
set_option maxRecDepth 20000 in
theorem ggX4_put_X4_no : GoodIn wsX4_put wsX4_no := goodIn_r _ [21, 1, 29, 30, 31, 32, 33, 34, 35, 36, 37, 38, 39, 40, 41, 42, 43, 44, 45, 46, 47, 48, 49, 50, 51, 52, 53] (by decide +kernel) (by decide +kernel)
set_option maxRecDepth 20000 in
theorem gX4_put_X4_no : GoodIn wsX4_put (wsV RX4 109 RX4 yX4_no wsX4_no) := goodIn_app (goodIn_of _ (by decide +kernel)) ggX4_put_X4_no
set_option maxRecDepth 20000 in
theorem ggX4_put_X4_turnAsAtFirst : GoodIn wsX4_put wsX4_turnAsAtFirst := goodIn_r _ [25, 26, 27, 28, 29, 30, 31, 32, 33, 34, 35, 36, 37, 38, 39, 40, 41, 42, 43, 44, 45, 46, 47, 48, 49, 50, 51, 52, 53] (by decide +kernel) (by decide +kernel)
set_option maxRecDepth 20000 in
theorem gX4_put_X4_turnAsAtFirst : GoodIn wsX4_put (wsV RX4 80 RX4 yX4_turnAsAtFirst wsX4_turnAsAtFirst) := goodIn_app (goodIn_of _ (by decide +kernel)) ggX4_put_X4_turnAsAtFirst
theorem dX4_put_0 : decode cX4_put 0 = .ok (.aload_n 0, 1) := by decide +kernel
theorem dX4_put_1 : decode cX4_put 1 = .ok (.iconst 0, 1) := by decide +kernel
theorem dX4_put_2 : decode cX4_put 2 = .ok (.putfield 48, 3) := by decide +kernel
theorem dX4_put_5 : decode cX4_put 5 = .ok (.aload_n 0, 1) := by decide +kernel
theorem dX4_put_6 : decode cX4_put 6 = .ok (.iload_n 1, 1) := by decide +kernel
theorem dX4_put_7 : decode cX4_put 7 = .ok (.iload_n 2, 1) := by decide +kernel
theorem dX4_put_8 : decode cX4_put 8 = .ok (.invokevirtual 83, 3) := by decide +kernel
theorem dX4_put_11 : decode cX4_put 11 = .ok (.ifCond .ne 9, 3) := by decide +kernel
theorem dX4_put_14 : decode cX4_put 14 = .ok (.aload_n 0, 1) := by decide +kernel
theorem dX4_put_15 : decode cX4_put 15 = .ok (.iconst 1, 1) := by decide +kernel
theorem dX4_put_16 : decode cX4_put 16 = .ok (.invokevirtual 109, 3) := by decide +kernel
theorem dX4_put_19 : decode cX4_put 19 = .ok (.ireturn, 1) := by decide +kernel
theorem dX4_put_20 : decode cX4_put 20 = .ok (.aload_n 0, 1) := by decide +kernel
theorem dX4_put_21 : decode cX4_put 21 = .ok (.getfield 9, 3) := by decide +kernel
theorem dX4_put_24 : decode cX4_put 24 = .ok (.aload_n 0, 1) := by decide +kernel
theorem dX4_put_25 : decode cX4_put 25 = .ok (.getfield 52, 3) := by decide +kernel
theorem dX4_put_28 : decode cX4_put 28 = .ok (.iload_n 2, 1) := by decide +kernel
theorem dX4_put_29 : decode cX4_put 29 = .ok (.imul, 1) := by decide +kernel
theorem dX4_put_30 : decode cX4_put 30 = .ok (.iload_n 1, 1) := by decide +kernel
theorem dX4_put_31 : decode cX4_put 31 = .ok (.iadd, 1) := by decide +kernel
theorem dX4_put_32 : decode cX4_put 32 = .ok (.baload, 1) := by decide +kernel
theorem dX4_put_33 : decode cX4_put 33 = .ok (.ifCond .eq 9, 3) := by decide +kernel
theorem dX4_put_36 : decode cX4_put 36 = .ok (.aload_n 0, 1) := by decide +kernel
theorem dX4_put_37 : decode cX4_put 37 = .ok (.iconst 2, 1) := by decide +kernel
theorem dX4_put_38 : decode cX4_put 38 = .ok (.invokevirtual 109, 3) := by decide +kernel
theorem dX4_put_41 : decode cX4_put 41 = .ok (.ireturn, 1) := by decide +kernel
theorem dX4_put_42 : decode cX4_put 42 = .ok (.iload_n 1, 1) := by decide +kernel
theorem dX4_put_43 : decode cX4_put 43 = .ok (.aload_n 0, 1) := by decide +kernel
theorem dX4_put_44 : decode cX4_put 44 = .ok (.getfield 77, 3) := by decide +kernel
theorem dX4_put_47 : decode cX4_put 47 = .ok (.aload_n 0, 1) := by decide +kernel
theorem dX4_put_48 : decode cX4_put 48 = .ok (.getfield 52, 3) := by decide +kernel
theorem dX4_put_51 : decode cX4_put 51 = .ok (.irem, 1) := by decide +kernel
theorem dX4_put_52 : decode cX4_put 52 = .ok (.isub, 1) := by decide +kernel
theorem dX4_put_53 : decode cX4_put 53 = .ok (.invokestatic 125, 3) := by decide +kernel
theorem dX4_put_56 : decode cX4_put 56 = .ok (.iload_n 2, 1) := by decide +kernel
theorem dX4_put_57 : decode cX4_put 57 = .ok (.aload_n 0, 1) := by decide +kernel
theorem dX4_put_58 : decode cX4_put 58 = .ok (.getfield 77, 3) := by decide +kernel
theorem dX4_put_61 : decode cX4_put 61 = .ok (.aload_n 0, 1) := by decide +kernel
theorem dX4_put_62 : decode cX4_put 62 = .ok (.getfield 52, 3) := by decide +kernel
theorem dX4_put_65 : decode cX4_put 65 = .ok (.idiv, 1) := by decide +kernel
theorem dX4_put_66 : decode cX4_put 66 = .ok (.isub, 1) := by decide +kernel
theorem dX4_put_67 : decode cX4_put 67 = .ok (.invokestatic 125, 3) := by decide +kernel
theorem dX4_put_70 : decode cX4_put 70 = .ok (.iadd, 1) := by decide +kernel
theorem dX4_put_71 : decode cX4_put 71 = .ok (.istore_n 3, 1) := by decide +kernel
theorem dX4_put_72 : decode cX4_put 72 = .ok (.aload_n 0, 1) := by decide +kernel
theorem dX4_put_73 : decode cX4_put 73 = .ok (.aload_n 0, 1) := by decide +kernel
theorem dX4_put_74 : decode cX4_put 74 = .ok (.getfield 52, 3) := by decide +kernel
theorem dX4_put_77 : decode cX4_put 77 = .ok (.iload_n 2, 1) := by decide +kernel
theorem dX4_put_78 : decode cX4_put 78 = .ok (.imul, 1) := by decide +kernel
theorem dX4_put_79 : decode cX4_put 79 = .ok (.iload_n 1, 1) := by decide +kernel
theorem dX4_put_80 : decode cX4_put 80 = .ok (.iadd, 1) := by decide +kernel
theorem dX4_put_81 : decode cX4_put 81 = .ok (.putfield 77, 3) := by decide +kernel
theorem dX4_put_84 : decode cX4_put 84 = .ok (.aload_n 0, 1) := by decide +kernel
theorem dX4_put_85 : decode cX4_put 85 = .ok (.invokevirtual 80, 3) := by decide +kernel
theorem dX4_put_88 : decode cX4_put 88 = .ok (.iload_n 3, 1) := by decide +kernel
theorem dX4_put_89 : decode cX4_put 89 = .ok (.ireturn, 1) := by decide +kernel
set_option maxRecDepth 20000 in
theorem ggX4_roll_X4_isSide : GoodIn wsX4_roll wsX4_isSide := goodIn_r _ [6, 7, 8, 5, 9] (by decide +kernel) (by decide +kernel)
set_option maxRecDepth 20000 in
theorem gX4_roll_X4_isSide : GoodIn wsX4_roll (va_wsS RX4 128 yX4_isSide wsX4_isSide) := goodIn_app (goodIn_of _ (by decide +kernel)) ggX4_roll_X4_isSide
set_option maxRecDepth 20000 in
theorem ggX4_roll_X4_no : GoodIn wsX4_roll wsX4_no := goodIn_r _ [13, 1, 49, 50, 51, 52, 53, 54, 55, 56, 57, 58, 59, 60, 61, 62, 63, 64, 65, 66, 67, 68, 69, 70, 71, 72, 73] (by decide +kernel) (by decide +kernel)
set_option maxRecDepth 20000 in
theorem gX4_roll_X4_no : GoodIn wsX4_roll (wsV RX4 109 RX4 yX4_no wsX4_no) := goodIn_app (goodIn_of _ (by decide +kernel)) ggX4_roll_X4_no
set_option maxRecDepth 20000 in
theorem ggX4_roll_X4_rolled : GoodIn wsX4_roll wsX4_rolled := goodIn_r _ [17, 18, 19, 20, 2, 21, 22, 23, 24, 25, 26, 27, 28, 29, 30, 31, 32, 5, 33, 34, 35, 36, 37, 38, 39, 40, 7, 8, 9, 41, 42, 43, 44, 45, 46, 47, 48, 49, 50, 51, 52, 53, 54, 55, 56, 57, 58, 59, 60, 61, 62, 63, 64, 65, 66, 67, 68, 69, 70, 71, 72, 73] (by decide +kernel) (by decide +kernel)
set_option maxRecDepth 20000 in
theorem gX4_roll_X4_rolled : GoodIn wsX4_roll (wsV RX4 131 RX4 yX4_rolled wsX4_rolled) := goodIn_app (goodIn_of _ (by decide +kernel)) ggX4_roll_X4_rolled
theorem dX4_roll_0 : decode cX4_roll 0 = .ok (.aload_n 0, 1) := by decide +kernel
theorem dX4_roll_1 : decode cX4_roll 1 = .ok (.iconst 0, 1) := by decide +kernel
theorem dX4_roll_2 : decode cX4_roll 2 = .ok (.putfield 48, 3) := by decide +kernel
theorem dX4_roll_5 : decode cX4_roll 5 = .ok (.iload_n 1, 1) := by decide +kernel
theorem dX4_roll_6 : decode cX4_roll 6 = .ok (.invokestatic 128, 3) := by decide +kernel
theorem dX4_roll_9 : decode cX4_roll 9 = .ok (.ifCond .ne 9, 3) := by decide +kernel
theorem dX4_roll_12 : decode cX4_roll 12 = .ok (.aload_n 0, 1) := by decide +kernel
theorem dX4_roll_13 : decode cX4_roll 13 = .ok (.iconst 1, 1) := by decide +kernel
theorem dX4_roll_14 : decode cX4_roll 14 = .ok (.invokevirtual 109, 3) := by decide +kernel
theorem dX4_roll_17 : decode cX4_roll 17 = .ok (.ireturn, 1) := by decide +kernel
theorem dX4_roll_18 : decode cX4_roll 18 = .ok (.aload_n 0, 1) := by decide +kernel
theorem dX4_roll_19 : decode cX4_roll 19 = .ok (.iload_n 1, 1) := by decide +kernel
theorem dX4_roll_20 : decode cX4_roll 20 = .ok (.invokevirtual 131, 3) := by decide +kernel
theorem dX4_roll_23 : decode cX4_roll 23 = .ok (.ifCond .eq 13, 3) := by decide +kernel
theorem dX4_roll_26 : decode cX4_roll 26 = .ok (.bipush 7, 2) := by decide +kernel
theorem dX4_roll_28 : decode cX4_roll 28 = .ok (.aload_n 0, 1) := by decide +kernel
theorem dX4_roll_29 : decode cX4_roll 29 = .ok (.getfield 62, 3) := by decide +kernel
theorem dX4_roll_32 : decode cX4_roll 32 = .ok (.isub, 1) := by decide +kernel
theorem dX4_roll_33 : decode cX4_roll 33 = .ok (.goto 8, 3) := by decide +kernel
theorem dX4_roll_36 : decode cX4_roll 36 = .ok (.aload_n 0, 1) := by decide +kernel
theorem dX4_roll_37 : decode cX4_roll 37 = .ok (.iconst 2, 1) := by decide +kernel
theorem dX4_roll_38 : decode cX4_roll 38 = .ok (.invokevirtual 109, 3) := by decide +kernel
theorem dX4_roll_41 : decode cX4_roll 41 = .ok (.ireturn, 1) := by decide +kernel
set_option maxRecDepth 20000 in
theorem ggX4_rolledOn_X4_rolled : GoodIn wsX4_rolledOn wsX4_rolled := goodIn_r _ [5, 6, 7, 8, 9, 10, 11, 12, 13, 14, 15, 16, 17, 18, 19, 20, 21, 4, 22, 23, 24, 25, 26, 27, 28, 29, 30, 31, 32, 33, 34, 35, 36, 37, 38, 39, 40, 41, 42, 43, 44, 45, 46, 47, 48, 49, 50, 51, 52, 53, 54, 55, 56, 57, 58, 59, 60, 61, 62, 63, 64, 65] (by decide +kernel) (by decide +kernel)
set_option maxRecDepth 20000 in
theorem gX4_rolledOn_X4_rolled : GoodIn wsX4_rolledOn (wsV RX4 131 RX4 yX4_rolled wsX4_rolled) := goodIn_app (goodIn_of _ (by decide +kernel)) ggX4_rolledOn_X4_rolled
theorem dX4_rolledOn_0 : decode cX4_rolledOn 0 = .ok (.iconst 0, 1) := by decide +kernel
theorem dX4_rolledOn_1 : decode cX4_rolledOn 1 = .ok (.istore_n 3, 1) := by decide +kernel
theorem dX4_rolledOn_2 : decode cX4_rolledOn 2 = .ok (.iload_n 3, 1) := by decide +kernel
theorem dX4_rolledOn_3 : decode cX4_rolledOn 3 = .ok (.iload_n 2, 1) := by decide +kernel
theorem dX4_rolledOn_4 : decode cX4_rolledOn 4 = .ok (.if_icmp .ge 17, 3) := by decide +kernel
theorem dX4_rolledOn_7 : decode cX4_rolledOn 7 = .ok (.aload_n 0, 1) := by decide +kernel
theorem dX4_rolledOn_8 : decode cX4_rolledOn 8 = .ok (.iload_n 1, 1) := by decide +kernel
theorem dX4_rolledOn_9 : decode cX4_rolledOn 9 = .ok (.invokevirtual 131, 3) := by decide +kernel
theorem dX4_rolledOn_12 : decode cX4_rolledOn 12 = .ok (.ifCond .eq 9, 3) := by decide +kernel
theorem dX4_rolledOn_15 : decode cX4_rolledOn 15 = .ok (.iinc 3 1, 3) := by decide +kernel
theorem dX4_rolledOn_18 : decode cX4_rolledOn 18 = .ok (.goto (-16), 3) := by decide +kernel
theorem dX4_rolledOn_21 : decode cX4_rolledOn 21 = .ok (.iload_n 3, 1) := by decide +kernel
theorem dX4_rolledOn_22 : decode cX4_rolledOn 22 = .ok (.ireturn, 1) := by decide +kernel
set_option maxRecDepth 20000 in
theorem ggX4_rollOn_X4_isSide : GoodIn wsX4_rollOn wsX4_isSide := goodIn_r _ [5, 6, 7, 4, 8] (by decide +kernel) (by decide +kernel)
set_option maxRecDepth 20000 in
theorem gX4_rollOn_X4_isSide : GoodIn wsX4_rollOn (va_wsS RX4 128 yX4_isSide wsX4_isSide) := goodIn_app (goodIn_of _ (by decide +kernel)) ggX4_rollOn_X4_isSide
set_option maxRecDepth 20000 in
theorem ggX4_rollOn_X4_no : GoodIn wsX4_rollOn wsX4_no := goodIn_r _ [12, 1, 53, 54, 55, 56, 57, 58, 59, 60, 61, 62, 63, 64, 65, 66, 67, 68, 69, 70, 71, 72, 73, 74, 75, 76, 77] (by decide +kernel) (by decide +kernel)
set_option maxRecDepth 20000 in
theorem gX4_rollOn_X4_no : GoodIn wsX4_rollOn (wsV RX4 109 RX4 yX4_no wsX4_no) := goodIn_app (goodIn_of _ (by decide +kernel)) ggX4_rollOn_X4_no
set_option maxRecDepth 20000 in
theorem ggX4_rollOn_X4_isIn : GoodIn wsX4_rollOn wsX4_isIn := goodIn_r _ [8] (by decide +kernel) (by decide +kernel)
set_option maxRecDepth 20000 in
theorem gX4_rollOn_X4_isIn : GoodIn wsX4_rollOn (va_wsS RX4 55 yX4_isIn wsX4_isIn) := goodIn_app (goodIn_of _ (by decide +kernel)) ggX4_rollOn_X4_isIn
set_option maxRecDepth 20000 in
theorem ggX4_rollOn_X4_rolledOn : GoodIn wsX4_rollOn wsX4_rolledOn := goodIn_r _ [16, 17, 18, 19, 4, 20, 21, 22, 23, 24, 25, 26, 27, 28, 29, 30, 31, 32, 33, 34, 35, 36, 37, 38, 39, 40, 41, 42, 43, 44, 6, 7, 8, 45, 46, 47, 48, 49, 50, 51, 52, 53, 54, 55, 56, 57, 58, 59, 60, 61, 62, 63, 64, 65, 66, 67, 68, 69, 70, 71, 72, 73, 74, 75, 76, 77] (by decide +kernel) (by decide +kernel)
set_option maxRecDepth 20000 in
theorem gX4_rollOn_X4_rolledOn : GoodIn wsX4_rollOn (wsV RX4 134 RX4 yX4_rolledOn wsX4_rolledOn) := goodIn_app (goodIn_of _ (by decide +kernel)) ggX4_rollOn_X4_rolledOn
theorem dX4_rollOn_0 : decode cX4_rollOn 0 = .ok (.aload_n 0, 1) := by decide +kernel
theorem dX4_rollOn_1 : decode cX4_rollOn 1 = .ok (.iconst 0, 1) := by decide +kernel
theorem dX4_rollOn_2 : decode cX4_rollOn 2 = .ok (.putfield 48, 3) := by decide +kernel
theorem dX4_rollOn_5 : decode cX4_rollOn 5 = .ok (.iload_n 1, 1) := by decide +kernel
theorem dX4_rollOn_6 : decode cX4_rollOn 6 = .ok (.invokestatic 128, 3) := by decide +kernel
theorem dX4_rollOn_9 : decode cX4_rollOn 9 = .ok (.ifCond .ne 9, 3) := by decide +kernel
theorem dX4_rollOn_12 : decode cX4_rollOn 12 = .ok (.aload_n 0, 1) := by decide +kernel
theorem dX4_rollOn_13 : decode cX4_rollOn 13 = .ok (.iconst 1, 1) := by decide +kernel
theorem dX4_rollOn_14 : decode cX4_rollOn 14 = .ok (.invokevirtual 109, 3) := by decide +kernel
theorem dX4_rollOn_17 : decode cX4_rollOn 17 = .ok (.ireturn, 1) := by decide +kernel
theorem dX4_rollOn_18 : decode cX4_rollOn 18 = .ok (.iload_n 2, 1) := by decide +kernel
theorem dX4_rollOn_19 : decode cX4_rollOn 19 = .ok (.iconst 1, 1) := by decide +kernel
theorem dX4_rollOn_20 : decode cX4_rollOn 20 = .ok (.bipush 50, 2) := by decide +kernel
theorem dX4_rollOn_22 : decode cX4_rollOn 22 = .ok (.invokestatic 55, 3) := by decide +kernel
theorem dX4_rollOn_25 : decode cX4_rollOn 25 = .ok (.ifCond .eq 12, 3) := by decide +kernel
theorem dX4_rollOn_28 : decode cX4_rollOn 28 = .ok (.aload_n 0, 1) := by decide +kernel
theorem dX4_rollOn_29 : decode cX4_rollOn 29 = .ok (.iload_n 1, 1) := by decide +kernel
theorem dX4_rollOn_30 : decode cX4_rollOn 30 = .ok (.iload_n 2, 1) := by decide +kernel
theorem dX4_rollOn_31 : decode cX4_rollOn 31 = .ok (.invokevirtual 134, 3) := by decide +kernel
theorem dX4_rollOn_34 : decode cX4_rollOn 34 = .ok (.goto 8, 3) := by decide +kernel
theorem dX4_rollOn_37 : decode cX4_rollOn 37 = .ok (.aload_n 0, 1) := by decide +kernel
theorem dX4_rollOn_38 : decode cX4_rollOn 38 = .ok (.iconst 2, 1) := by decide +kernel
theorem dX4_rollOn_39 : decode cX4_rollOn 39 = .ok (.invokevirtual 109, 3) := by decide +kernel
theorem dX4_rollOn_42 : decode cX4_rollOn 42 = .ok (.ireturn, 1) := by decide +kernel
theorem dX4_ok_0 : decode cX4_ok 0 = .ok (.aload_n 0, 1) := by decide +kernel
theorem dX4_ok_1 : decode cX4_ok 1 = .ok (.iconst 0, 1) := by decide +kernel
theorem dX4_ok_2 : decode cX4_ok 2 = .ok (.putfield 48, 3) := by decide +kernel
theorem dX4_ok_5 : decode cX4_ok 5 = .ok (.iload_n 1, 1) := by decide +kernel
theorem dX4_ok_6 : decode cX4_ok 6 = .ok (.ireturn, 1) := by decide +kernel
set_option maxRecDepth 20000 in
theorem ggX4_column_X4_ok : GoodIn wsX4_column wsX4_ok := goodIn_r _ [7, 8, 9, 10, 11, 12, 13, 14, 15, 16, 17, 18, 19, 20, 21, 22, 23, 24, 25, 26, 27, 28, 29, 30, 31, 32, 33] (by decide +kernel) (by decide +kernel)
set_option maxRecDepth 20000 in
theorem gX4_column_X4_ok : GoodIn wsX4_column (wsV RX4 137 RX4 yX4_ok wsX4_ok) := goodIn_app (goodIn_of _ (by decide +kernel)) ggX4_column_X4_ok
theorem dX4_column_0 : decode cX4_column 0 = .ok (.aload_n 0, 1) := by decide +kernel
theorem dX4_column_1 : decode cX4_column 1 = .ok (.aload_n 0, 1) := by decide +kernel
theorem dX4_column_2 : decode cX4_column 2 = .ok (.getfield 77, 3) := by decide +kernel
theorem dX4_column_5 : decode cX4_column 5 = .ok (.aload_n 0, 1) := by decide +kernel
theorem dX4_column_6 : decode cX4_column 6 = .ok (.getfield 52, 3) := by decide +kernel
theorem dX4_column_9 : decode cX4_column 9 = .ok (.irem, 1) := by decide +kernel
theorem dX4_column_10 : decode cX4_column 10 = .ok (.invokevirtual 137, 3) := by decide +kernel
theorem dX4_column_13 : decode cX4_column 13 = .ok (.ireturn, 1) := by decide +kernel
set_option maxRecDepth 20000 in
theorem ggX4_row_X4_ok : GoodIn wsX4_row wsX4_ok := goodIn_r _ [7, 8, 9, 10, 11, 12, 13, 14, 15, 16, 17, 18, 19, 20, 21, 22, 23, 24, 25, 26, 27, 28, 29, 30, 31, 32, 33] (by decide +kernel) (by decide +kernel)
set_option maxRecDepth 20000 in
theorem gX4_row_X4_ok : GoodIn wsX4_row (wsV RX4 137 RX4 yX4_ok wsX4_ok) := goodIn_app (goodIn_of _ (by decide +kernel)) ggX4_row_X4_ok
theorem dX4_row_0 : decode cX4_row 0 = .ok (.aload_n 0, 1) := by decide +kernel
theorem dX4_row_1 : decode cX4_row 1 = .ok (.aload_n 0, 1) := by decide +kernel
theorem dX4_row_2 : decode cX4_row 2 = .ok (.getfield 77, 3) := by decide +kernel
theorem dX4_row_5 : decode cX4_row 5 = .ok (.aload_n 0, 1) := by decide +kernel
theorem dX4_row_6 : decode cX4_row 6 = .ok (.getfield 52, 3) := by decide +kernel
theorem dX4_row_9 : decode cX4_row 9 = .ok (.idiv, 1) := by decide +kernel
theorem dX4_row_10 : decode cX4_row 10 = .ok (.invokevirtual 137, 3) := by decide +kernel
theorem dX4_row_13 : decode cX4_row 13 = .ok (.ireturn, 1) := by decide +kernel
set_option maxRecDepth 20000 in
theorem ggX4_top_X4_ok : GoodIn wsX4_top wsX4_ok := goodIn_r _ [6, 7, 8, 9, 10, 11, 12, 13, 14, 15, 16, 17, 18, 19, 20, 21, 22, 23, 24, 25, 26, 27, 28, 29, 30, 31, 32] (by decide +kernel) (by decide +kernel)
set_option maxRecDepth 20000 in
theorem gX4_top_X4_ok : GoodIn wsX4_top (wsV RX4 137 RX4 yX4_ok wsX4_ok) := goodIn_app (goodIn_of _ (by decide +kernel)) ggX4_top_X4_ok
theorem dX4_top_0 : decode cX4_top 0 = .ok (.aload_n 0, 1) := by decide +kernel
theorem dX4_top_1 : decode cX4_top 1 = .ok (.aload_n 0, 1) := by decide +kernel
theorem dX4_top_2 : decode cX4_top 2 = .ok (.getfield 62, 3) := by decide +kernel
theorem dX4_top_5 : decode cX4_top 5 = .ok (.invokevirtual 137, 3) := by decide +kernel
theorem dX4_top_8 : decode cX4_top 8 = .ok (.ireturn, 1) := by decide +kernel
set_option maxRecDepth 20000 in
theorem ggX4_bottom_X4_ok : GoodIn wsX4_bottom wsX4_ok := goodIn_r _ [6, 7, 8, 9, 10, 11, 12, 13, 14, 15, 16, 17, 18, 19, 20, 21, 22, 23, 24, 25, 26, 27, 28, 29, 30, 31, 32] (by decide +kernel) (by decide +kernel)
set_option maxRecDepth 20000 in
theorem gX4_bottom_X4_ok : GoodIn wsX4_bottom (wsV RX4 137 RX4 yX4_ok wsX4_ok) := goodIn_app (goodIn_of _ (by decide +kernel)) ggX4_bottom_X4_ok
theorem dX4_bottom_0 : decode cX4_bottom 0 = .ok (.aload_n 0, 1) := by decide +kernel
theorem dX4_bottom_1 : decode cX4_bottom 1 = .ok (.bipush 7, 2) := by decide +kernel
theorem dX4_bottom_3 : decode cX4_bottom 3 = .ok (.aload_n 0, 1) := by decide +kernel
theorem dX4_bottom_4 : decode cX4_bottom 4 = .ok (.getfield 62, 3) := by decide +kernel
theorem dX4_bottom_7 : decode cX4_bottom 7 = .ok (.isub, 1) := by decide +kernel
theorem dX4_bottom_8 : decode cX4_bottom 8 = .ok (.invokevirtual 137, 3) := by decide +kernel
theorem dX4_bottom_11 : decode cX4_bottom 11 = .ok (.ireturn, 1) := by decide +kernel
theorem dX4_side_0 : decode cX4_side 0 = .ok (.iload_n 1, 1) := by decide +kernel
theorem dX4_side_1 : decode cX4_side 1 = .ok (.ifCond .ne 10, 3) := by decide +kernel
theorem dX4_side_4 : decode cX4_side 4 = .ok (.aload_n 0, 1) := by decide +kernel
theorem dX4_side_5 : decode cX4_side 5 = .ok (.getfield 65, 3) := by decide +kernel
theorem dX4_side_8 : decode cX4_side 8 = .ok (.goto 37, 3) := by decide +kernel
theorem dX4_side_11 : decode cX4_side 11 = .ok (.iload_n 1, 1) := by decide +kernel
theorem dX4_side_12 : decode cX4_side 12 = .ok (.iconst 1, 1) := by decide +kernel
theorem dX4_side_13 : decode cX4_side 13 = .ok (.if_icmp .ne 10, 3) := by decide +kernel
theorem dX4_side_16 : decode cX4_side 16 = .ok (.aload_n 0, 1) := by decide +kernel
theorem dX4_side_17 : decode cX4_side 17 = .ok (.getfield 68, 3) := by decide +kernel
theorem dX4_side_20 : decode cX4_side 20 = .ok (.goto 25, 3) := by decide +kernel
theorem dX4_side_23 : decode cX4_side 23 = .ok (.iload_n 1, 1) := by decide +kernel
theorem dX4_side_24 : decode cX4_side 24 = .ok (.iconst 2, 1) := by decide +kernel
theorem dX4_side_25 : decode cX4_side 25 = .ok (.if_icmp .ne 13, 3) := by decide +kernel
theorem dX4_side_28 : decode cX4_side 28 = .ok (.bipush 7, 2) := by decide +kernel
theorem dX4_side_30 : decode cX4_side 30 = .ok (.aload_n 0, 1) := by decide +kernel
theorem dX4_side_31 : decode cX4_side 31 = .ok (.getfield 65, 3) := by decide +kernel
theorem dX4_side_34 : decode cX4_side 34 = .ok (.isub, 1) := by decide +kernel
theorem dX4_side_35 : decode cX4_side 35 = .ok (.goto 10, 3) := by decide +kernel
theorem dX4_side_38 : decode cX4_side 38 = .ok (.bipush 7, 2) := by decide +kernel
theorem dX4_side_40 : decode cX4_side 40 = .ok (.aload_n 0, 1) := by decide +kernel
theorem dX4_side_41 : decode cX4_side 41 = .ok (.getfield 68, 3) := by decide +kernel
theorem dX4_side_44 : decode cX4_side 44 = .ok (.isub, 1) := by decide +kernel
theorem dX4_side_45 : decode cX4_side 45 = .ok (.ireturn, 1) := by decide +kernel
set_option maxRecDepth 20000 in
theorem ggX4_faceTo_X4_isSide : GoodIn wsX4_faceTo wsX4_isSide := goodIn_r _ [5, 6, 7, 4, 8] (by decide +kernel) (by decide +kernel)
set_option maxRecDepth 20000 in
theorem gX4_faceTo_X4_isSide : GoodIn wsX4_faceTo (va_wsS RX4 128 yX4_isSide wsX4_isSide) := goodIn_app (goodIn_of _ (by decide +kernel)) ggX4_faceTo_X4_isSide
set_option maxRecDepth 20000 in
theorem ggX4_faceTo_X4_side : GoodIn wsX4_faceTo wsX4_side := goodIn_r _ [12, 13, 14, 19, 20, 21, 22, 23, 24, 25, 26, 27, 28, 29, 30, 31, 32, 33, 34, 35, 36, 37, 38, 39, 40, 41, 42, 43] (by decide +kernel) (by decide +kernel)
set_option maxRecDepth 20000 in
theorem gX4_faceTo_X4_side : GoodIn wsX4_faceTo (wsV RX4 140 RX4 yX4_side wsX4_side) := goodIn_app (goodIn_of _ (by decide +kernel)) ggX4_faceTo_X4_side
set_option maxRecDepth 20000 in
theorem ggX4_faceTo_X4_no : GoodIn wsX4_faceTo wsX4_no := goodIn_r _ [18, 1, 19, 20, 21, 22, 23, 24, 25, 26, 27, 28, 29, 30, 31, 32, 33, 34, 35, 36, 37, 38, 39, 40, 41, 42, 43] (by decide +kernel) (by decide +kernel)
set_option maxRecDepth 20000 in
theorem gX4_faceTo_X4_no : GoodIn wsX4_faceTo (wsV RX4 109 RX4 yX4_no wsX4_no) := goodIn_app (goodIn_of _ (by decide +kernel)) ggX4_faceTo_X4_no
theorem dX4_faceTo_0 : decode cX4_faceTo 0 = .ok (.aload_n 0, 1) := by decide +kernel
theorem dX4_faceTo_1 : decode cX4_faceTo 1 = .ok (.iconst 0, 1) := by decide +kernel
theorem dX4_faceTo_2 : decode cX4_faceTo 2 = .ok (.putfield 48, 3) := by decide +kernel
theorem dX4_faceTo_5 : decode cX4_faceTo 5 = .ok (.iload_n 1, 1) := by decide +kernel
theorem dX4_faceTo_6 : decode cX4_faceTo 6 = .ok (.invokestatic 128, 3) := by decide +kernel
theorem dX4_faceTo_9 : decode cX4_faceTo 9 = .ok (.ifCond .eq 11, 3) := by decide +kernel
theorem dX4_faceTo_12 : decode cX4_faceTo 12 = .ok (.aload_n 0, 1) := by decide +kernel
theorem dX4_faceTo_13 : decode cX4_faceTo 13 = .ok (.iload_n 1, 1) := by decide +kernel
theorem dX4_faceTo_14 : decode cX4_faceTo 14 = .ok (.invokevirtual 140, 3) := by decide +kernel
theorem dX4_faceTo_17 : decode cX4_faceTo 17 = .ok (.goto 8, 3) := by decide +kernel
theorem dX4_faceTo_20 : decode cX4_faceTo 20 = .ok (.aload_n 0, 1) := by decide +kernel
theorem dX4_faceTo_21 : decode cX4_faceTo 21 = .ok (.iconst 1, 1) := by decide +kernel
theorem dX4_faceTo_22 : decode cX4_faceTo 22 = .ok (.invokevirtual 109, 3) := by decide +kernel
theorem dX4_faceTo_25 : decode cX4_faceTo 25 = .ok (.ireturn, 1) := by decide +kernel
theorem dX4_isAsAtFirst_0 : decode cX4_isAsAtFirst 0 = .ok (.aload_n 0, 1) := by decide +kernel
theorem dX4_isAsAtFirst_1 : decode cX4_isAsAtFirst 1 = .ok (.iconst 0, 1) := by decide +kernel
theorem dX4_isAsAtFirst_2 : decode cX4_isAsAtFirst 2 = .ok (.putfield 48, 3) := by decide +kernel
theorem dX4_isAsAtFirst_5 : decode cX4_isAsAtFirst 5 = .ok (.aload_n 0, 1) := by decide +kernel
theorem dX4_isAsAtFirst_6 : decode cX4_isAsAtFirst 6 = .ok (.getfield 62, 3) := by decide +kernel
theorem dX4_isAsAtFirst_9 : decode cX4_isAsAtFirst 9 = .ok (.iconst 1, 1) := by decide +kernel
theorem dX4_isAsAtFirst_10 : decode cX4_isAsAtFirst 10 = .ok (.if_icmp .ne 15, 3) := by decide +kernel
theorem dX4_isAsAtFirst_13 : decode cX4_isAsAtFirst 13 = .ok (.aload_n 0, 1) := by decide +kernel
theorem dX4_isAsAtFirst_14 : decode cX4_isAsAtFirst 14 = .ok (.getfield 65, 3) := by decide +kernel
theorem dX4_isAsAtFirst_17 : decode cX4_isAsAtFirst 17 = .ok (.iconst 2, 1) := by decide +kernel
theorem dX4_isAsAtFirst_18 : decode cX4_isAsAtFirst 18 = .ok (.if_icmp .ne 7, 3) := by decide +kernel
theorem dX4_isAsAtFirst_21 : decode cX4_isAsAtFirst 21 = .ok (.iconst 1, 1) := by decide +kernel
theorem dX4_isAsAtFirst_22 : decode cX4_isAsAtFirst 22 = .ok (.goto 4, 3) := by decide +kernel
theorem dX4_isAsAtFirst_25 : decode cX4_isAsAtFirst 25 = .ok (.iconst 0, 1) := by decide +kernel
theorem dX4_isAsAtFirst_26 : decode cX4_isAsAtFirst 26 = .ok (.ireturn, 1) := by decide +kernel
set_option maxRecDepth 20000 in
theorem ggX4_colourOf_X4_isFace : GoodIn wsX4_colourOf wsX4_isFace := goodIn_r _ [6, 7, 8, 5, 9] (by decide +kernel) (by decide +kernel)
set_option maxRecDepth 20000 in
theorem gX4_colourOf_X4_isFace : GoodIn wsX4_colourOf (va_wsS RX4 117 yX4_isFace wsX4_isFace) := goodIn_app (goodIn_of _ (by decide +kernel)) ggX4_colourOf_X4_isFace
set_option maxRecDepth 20000 in
theorem ggX4_colourOf_X4_no : GoodIn wsX4_colourOf wsX4_no := goodIn_r _ [13, 1, 14, 15, 16, 17, 18, 19, 20, 21, 22, 23, 24, 25, 26, 27, 28, 29, 30, 31, 32, 33, 34, 35, 36, 37, 38] (by decide +kernel) (by decide +kernel)
set_option maxRecDepth 20000 in
theorem gX4_colourOf_X4_no : GoodIn wsX4_colourOf (wsV RX4 109 RX4 yX4_no wsX4_no) := goodIn_app (goodIn_of _ (by decide +kernel)) ggX4_colourOf_X4_no
theorem dX4_colourOf_0 : decode cX4_colourOf 0 = .ok (.aload_n 0, 1) := by decide +kernel
theorem dX4_colourOf_1 : decode cX4_colourOf 1 = .ok (.iconst 0, 1) := by decide +kernel
theorem dX4_colourOf_2 : decode cX4_colourOf 2 = .ok (.putfield 48, 3) := by decide +kernel
theorem dX4_colourOf_5 : decode cX4_colourOf 5 = .ok (.iload_n 1, 1) := by decide +kernel
theorem dX4_colourOf_6 : decode cX4_colourOf 6 = .ok (.invokestatic 117, 3) := by decide +kernel
theorem dX4_colourOf_9 : decode cX4_colourOf 9 = .ok (.ifCond .eq 12, 3) := by decide +kernel
theorem dX4_colourOf_12 : decode cX4_colourOf 12 = .ok (.aload_n 0, 1) := by decide +kernel
theorem dX4_colourOf_13 : decode cX4_colourOf 13 = .ok (.getfield 17, 3) := by decide +kernel
theorem dX4_colourOf_16 : decode cX4_colourOf 16 = .ok (.iload_n 1, 1) := by decide +kernel
theorem dX4_colourOf_17 : decode cX4_colourOf 17 = .ok (.iaload, 1) := by decide +kernel
theorem dX4_colourOf_18 : decode cX4_colourOf 18 = .ok (.goto 8, 3) := by decide +kernel
theorem dX4_colourOf_21 : decode cX4_colourOf 21 = .ok (.aload_n 0, 1) := by decide +kernel
theorem dX4_colourOf_22 : decode cX4_colourOf 22 = .ok (.iconst 1, 1) := by decide +kernel
theorem dX4_colourOf_23 : decode cX4_colourOf 23 = .ok (.invokevirtual 109, 3) := by decide +kernel
theorem dX4_colourOf_26 : decode cX4_colourOf 26 = .ok (.ireturn, 1) := by decide +kernel
set_option maxRecDepth 20000 in
theorem ggX4_paintOf_X4_isFace : GoodIn wsX4_paintOf wsX4_isFace := goodIn_r _ [6, 7, 8, 5, 9] (by decide +kernel) (by decide +kernel)
set_option maxRecDepth 20000 in
theorem gX4_paintOf_X4_isFace : GoodIn wsX4_paintOf (va_wsS RX4 117 yX4_isFace wsX4_isFace) := goodIn_app (goodIn_of _ (by decide +kernel)) ggX4_paintOf_X4_isFace
set_option maxRecDepth 20000 in
theorem ggX4_paintOf_X4_no : GoodIn wsX4_paintOf wsX4_no := goodIn_r _ [13, 1, 14, 15, 16, 17, 18, 19, 20, 21, 22, 23, 24, 25, 26, 27, 28, 29, 30, 31, 32, 33, 34, 35, 36, 37, 38] (by decide +kernel) (by decide +kernel)
set_option maxRecDepth 20000 in
theorem gX4_paintOf_X4_no : GoodIn wsX4_paintOf (wsV RX4 109 RX4 yX4_no wsX4_no) := goodIn_app (goodIn_of _ (by decide +kernel)) ggX4_paintOf_X4_no
theorem dX4_paintOf_0 : decode cX4_paintOf 0 = .ok (.aload_n 0, 1) := by decide +kernel
theorem dX4_paintOf_1 : decode cX4_paintOf 1 = .ok (.iconst 0, 1) := by decide +kernel
theorem dX4_paintOf_2 : decode cX4_paintOf 2 = .ok (.putfield 48, 3) := by decide +kernel
theorem dX4_paintOf_5 : decode cX4_paintOf 5 = .ok (.iload_n 1, 1) := by decide +kernel
theorem dX4_paintOf_6 : decode cX4_paintOf 6 = .ok (.invokestatic 117, 3) := by decide +kernel
theorem dX4_paintOf_9 : decode cX4_paintOf 9 = .ok (.ifCond .eq 12, 3) := by decide +kernel
theorem dX4_paintOf_12 : decode cX4_paintOf 12 = .ok (.aload_n 0, 1) := by decide +kernel
theorem dX4_paintOf_13 : decode cX4_paintOf 13 = .ok (.getfield 20, 3) := by decide +kernel
theorem dX4_paintOf_16 : decode cX4_paintOf 16 = .ok (.iload_n 1, 1) := by decide +kernel
theorem dX4_paintOf_17 : decode cX4_paintOf 17 = .ok (.iaload, 1) := by decide +kernel
theorem dX4_paintOf_18 : decode cX4_paintOf 18 = .ok (.goto 8, 3) := by decide +kernel
theorem dX4_paintOf_21 : decode cX4_paintOf 21 = .ok (.aload_n 0, 1) := by decide +kernel
theorem dX4_paintOf_22 : decode cX4_paintOf 22 = .ok (.iconst 1, 1) := by decide +kernel
theorem dX4_paintOf_23 : decode cX4_paintOf 23 = .ok (.invokevirtual 109, 3) := by decide +kernel
theorem dX4_paintOf_26 : decode cX4_paintOf 26 = .ok (.ireturn, 1) := by decide +kernel
set_option maxRecDepth 20000 in
theorem ggX4_isWall_X4_isCell : GoodIn wsX4_isWall wsX4_isCell := goodIn_r _ [8, 3, 9, 10, 11, 7, 12, 17, 18, 19, 20, 21, 22, 23, 24, 25, 26, 27, 28, 29, 30, 31, 32, 33, 34, 35, 36, 37, 38, 39, 40, 41] (by decide +kernel) (by decide +kernel)
set_option maxRecDepth 20000 in
theorem gX4_isWall_X4_isCell : GoodIn wsX4_isWall (wsV RX4 83 RX4 yX4_isCell wsX4_isCell) := goodIn_app (goodIn_of _ (by decide +kernel)) ggX4_isWall_X4_isCell
set_option maxRecDepth 20000 in
theorem ggX4_isWall_X4_isNot : GoodIn wsX4_isWall wsX4_isNot := goodIn_r _ [16, 1, 17, 18, 19, 20, 21, 22, 23, 24, 25, 26, 27, 28, 29, 30, 31, 32, 33, 34, 35, 36, 37, 38, 39, 40, 41] (by decide +kernel) (by decide +kernel)
set_option maxRecDepth 20000 in
theorem gX4_isWall_X4_isNot : GoodIn wsX4_isWall (wsV RX4 113 RX4 yX4_isNot wsX4_isNot) := goodIn_app (goodIn_of _ (by decide +kernel)) ggX4_isWall_X4_isNot
theorem dX4_isWall_0 : decode cX4_isWall 0 = .ok (.aload_n 0, 1) := by decide +kernel
theorem dX4_isWall_1 : decode cX4_isWall 1 = .ok (.iconst 0, 1) := by decide +kernel
theorem dX4_isWall_2 : decode cX4_isWall 2 = .ok (.putfield 48, 3) := by decide +kernel
theorem dX4_isWall_5 : decode cX4_isWall 5 = .ok (.aload_n 0, 1) := by decide +kernel
theorem dX4_isWall_6 : decode cX4_isWall 6 = .ok (.iload_n 1, 1) := by decide +kernel
theorem dX4_isWall_7 : decode cX4_isWall 7 = .ok (.iload_n 2, 1) := by decide +kernel
theorem dX4_isWall_8 : decode cX4_isWall 8 = .ok (.invokevirtual 83, 3) := by decide +kernel
theorem dX4_isWall_11 : decode cX4_isWall 11 = .ok (.ifCond .eq 19, 3) := by decide +kernel
theorem dX4_isWall_14 : decode cX4_isWall 14 = .ok (.aload_n 0, 1) := by decide +kernel
theorem dX4_isWall_15 : decode cX4_isWall 15 = .ok (.getfield 9, 3) := by decide +kernel
theorem dX4_isWall_18 : decode cX4_isWall 18 = .ok (.aload_n 0, 1) := by decide +kernel
theorem dX4_isWall_19 : decode cX4_isWall 19 = .ok (.getfield 52, 3) := by decide +kernel
theorem dX4_isWall_22 : decode cX4_isWall 22 = .ok (.iload_n 2, 1) := by decide +kernel
theorem dX4_isWall_23 : decode cX4_isWall 23 = .ok (.imul, 1) := by decide +kernel
theorem dX4_isWall_24 : decode cX4_isWall 24 = .ok (.iload_n 1, 1) := by decide +kernel
theorem dX4_isWall_25 : decode cX4_isWall 25 = .ok (.iadd, 1) := by decide +kernel
theorem dX4_isWall_26 : decode cX4_isWall 26 = .ok (.baload, 1) := by decide +kernel
theorem dX4_isWall_27 : decode cX4_isWall 27 = .ok (.goto 8, 3) := by decide +kernel
theorem dX4_isWall_30 : decode cX4_isWall 30 = .ok (.aload_n 0, 1) := by decide +kernel
theorem dX4_isWall_31 : decode cX4_isWall 31 = .ok (.iconst 1, 1) := by decide +kernel
theorem dX4_isWall_32 : decode cX4_isWall 32 = .ok (.invokevirtual 113, 3) := by decide +kernel
theorem dX4_isWall_35 : decode cX4_isWall 35 = .ok (.ireturn, 1) := by decide +kernel
set_option maxRecDepth 20000 in
theorem ggX4_printAt_X4_isCell : GoodIn wsX4_printAt wsX4_isCell := goodIn_r _ [8, 3, 9, 10, 11, 7, 12, 17, 18, 19, 20, 21, 22, 23, 24, 25, 26, 27, 28, 29, 30, 31, 32, 33, 34, 35, 36, 37, 38, 39, 40, 41] (by decide +kernel) (by decide +kernel)
set_option maxRecDepth 20000 in
theorem gX4_printAt_X4_isCell : GoodIn wsX4_printAt (wsV RX4 83 RX4 yX4_isCell wsX4_isCell) := goodIn_app (goodIn_of _ (by decide +kernel)) ggX4_printAt_X4_isCell
set_option maxRecDepth 20000 in
theorem ggX4_printAt_X4_no : GoodIn wsX4_printAt wsX4_no := goodIn_r _ [16, 1, 17, 18, 19, 20, 21, 22, 23, 24, 25, 26, 27, 28, 29, 30, 31, 32, 33, 34, 35, 36, 37, 38, 39, 40, 41] (by decide +kernel) (by decide +kernel)
set_option maxRecDepth 20000 in
theorem gX4_printAt_X4_no : GoodIn wsX4_printAt (wsV RX4 109 RX4 yX4_no wsX4_no) := goodIn_app (goodIn_of _ (by decide +kernel)) ggX4_printAt_X4_no
theorem dX4_printAt_0 : decode cX4_printAt 0 = .ok (.aload_n 0, 1) := by decide +kernel
theorem dX4_printAt_1 : decode cX4_printAt 1 = .ok (.iconst 0, 1) := by decide +kernel
theorem dX4_printAt_2 : decode cX4_printAt 2 = .ok (.putfield 48, 3) := by decide +kernel
theorem dX4_printAt_5 : decode cX4_printAt 5 = .ok (.aload_n 0, 1) := by decide +kernel
theorem dX4_printAt_6 : decode cX4_printAt 6 = .ok (.iload_n 1, 1) := by decide +kernel
theorem dX4_printAt_7 : decode cX4_printAt 7 = .ok (.iload_n 2, 1) := by decide +kernel
theorem dX4_printAt_8 : decode cX4_printAt 8 = .ok (.invokevirtual 83, 3) := by decide +kernel
theorem dX4_printAt_11 : decode cX4_printAt 11 = .ok (.ifCond .eq 19, 3) := by decide +kernel
theorem dX4_printAt_14 : decode cX4_printAt 14 = .ok (.aload_n 0, 1) := by decide +kernel
theorem dX4_printAt_15 : decode cX4_printAt 15 = .ok (.getfield 13, 3) := by decide +kernel
theorem dX4_printAt_18 : decode cX4_printAt 18 = .ok (.aload_n 0, 1) := by decide +kernel
theorem dX4_printAt_19 : decode cX4_printAt 19 = .ok (.getfield 52, 3) := by decide +kernel
theorem dX4_printAt_22 : decode cX4_printAt 22 = .ok (.iload_n 2, 1) := by decide +kernel
theorem dX4_printAt_23 : decode cX4_printAt 23 = .ok (.imul, 1) := by decide +kernel
theorem dX4_printAt_24 : decode cX4_printAt 24 = .ok (.iload_n 1, 1) := by decide +kernel
theorem dX4_printAt_25 : decode cX4_printAt 25 = .ok (.iadd, 1) := by decide +kernel
theorem dX4_printAt_26 : decode cX4_printAt 26 = .ok (.iaload, 1) := by decide +kernel
theorem dX4_printAt_27 : decode cX4_printAt 27 = .ok (.goto 8, 3) := by decide +kernel
theorem dX4_printAt_30 : decode cX4_printAt 30 = .ok (.aload_n 0, 1) := by decide +kernel
theorem dX4_printAt_31 : decode cX4_printAt 31 = .ok (.iconst 1, 1) := by decide +kernel
theorem dX4_printAt_32 : decode cX4_printAt 32 = .ok (.invokevirtual 109, 3) := by decide +kernel
theorem dX4_printAt_35 : decode cX4_printAt 35 = .ok (.ireturn, 1) := by decide +kernel
set_option maxRecDepth 20000 in
theorem ggX4_canRoll_X4_isSide : GoodIn wsX4_canRoll wsX4_isSide := goodIn_r _ [6, 7, 8, 5, 9] (by decide +kernel) (by decide +kernel)
set_option maxRecDepth 20000 in
theorem gX4_canRoll_X4_isSide : GoodIn wsX4_canRoll (va_wsS RX4 128 yX4_isSide wsX4_isSide) := goodIn_app (goodIn_of _ (by decide +kernel)) ggX4_canRoll_X4_isSide
set_option maxRecDepth 20000 in
theorem ggX4_canRoll_X4_beside : GoodIn wsX4_canRoll wsX4_beside := goodIn_r _ [13, 14, 15, 16, 17, 18, 5, 19, 20, 7, 8, 9, 25, 26, 27, 28, 29, 30, 31, 32, 33, 34, 35, 36, 37, 38, 39, 40, 41, 42, 43, 44, 45, 46, 47, 48, 49] (by decide +kernel) (by decide +kernel)
set_option maxRecDepth 20000 in
theorem gX4_canRoll_X4_beside : GoodIn wsX4_canRoll (wsV RX4 99 RX4 yX4_beside wsX4_beside) := goodIn_app (goodIn_of _ (by decide +kernel)) ggX4_canRoll_X4_beside
set_option maxRecDepth 20000 in
theorem ggX4_canRoll_X4_isNot : GoodIn wsX4_canRoll wsX4_isNot := goodIn_r _ [24, 1, 25, 26, 27, 28, 29, 30, 31, 32, 33, 34, 35, 36, 37, 38, 39, 40, 41, 42, 43, 44, 45, 46, 47, 48, 49] (by decide +kernel) (by decide +kernel)
set_option maxRecDepth 20000 in
theorem gX4_canRoll_X4_isNot : GoodIn wsX4_canRoll (wsV RX4 113 RX4 yX4_isNot wsX4_isNot) := goodIn_app (goodIn_of _ (by decide +kernel)) ggX4_canRoll_X4_isNot
theorem dX4_canRoll_0 : decode cX4_canRoll 0 = .ok (.aload_n 0, 1) := by decide +kernel
theorem dX4_canRoll_1 : decode cX4_canRoll 1 = .ok (.iconst 0, 1) := by decide +kernel
theorem dX4_canRoll_2 : decode cX4_canRoll 2 = .ok (.putfield 48, 3) := by decide +kernel
theorem dX4_canRoll_5 : decode cX4_canRoll 5 = .ok (.iload_n 1, 1) := by decide +kernel
theorem dX4_canRoll_6 : decode cX4_canRoll 6 = .ok (.invokestatic 128, 3) := by decide +kernel
theorem dX4_canRoll_9 : decode cX4_canRoll 9 = .ok (.ifCond .eq 24, 3) := by decide +kernel
theorem dX4_canRoll_12 : decode cX4_canRoll 12 = .ok (.aload_n 0, 1) := by decide +kernel
theorem dX4_canRoll_13 : decode cX4_canRoll 13 = .ok (.aload_n 0, 1) := by decide +kernel
theorem dX4_canRoll_14 : decode cX4_canRoll 14 = .ok (.getfield 77, 3) := by decide +kernel
theorem dX4_canRoll_17 : decode cX4_canRoll 17 = .ok (.iload_n 1, 1) := by decide +kernel
theorem dX4_canRoll_18 : decode cX4_canRoll 18 = .ok (.invokevirtual 99, 3) := by decide +kernel
theorem dX4_canRoll_21 : decode cX4_canRoll 21 = .ok (.iconst (-1), 1) := by decide +kernel
theorem dX4_canRoll_22 : decode cX4_canRoll 22 = .ok (.if_icmp .eq 7, 3) := by decide +kernel
theorem dX4_canRoll_25 : decode cX4_canRoll 25 = .ok (.iconst 1, 1) := by decide +kernel
theorem dX4_canRoll_26 : decode cX4_canRoll 26 = .ok (.goto 12, 3) := by decide +kernel
theorem dX4_canRoll_29 : decode cX4_canRoll 29 = .ok (.iconst 0, 1) := by decide +kernel
theorem dX4_canRoll_30 : decode cX4_canRoll 30 = .ok (.goto 8, 3) := by decide +kernel
theorem dX4_canRoll_33 : decode cX4_canRoll 33 = .ok (.aload_n 0, 1) := by decide +kernel
theorem dX4_canRoll_34 : decode cX4_canRoll 34 = .ok (.iconst 1, 1) := by decide +kernel
theorem dX4_canRoll_35 : decode cX4_canRoll 35 = .ok (.invokevirtual 113, 3) := by decide +kernel
theorem dX4_canRoll_38 : decode cX4_canRoll 38 = .ok (.ireturn, 1) := by decide +kernel
set_option maxRecDepth 20000 in
theorem ggX4_width_X4_ok : GoodIn wsX4_width wsX4_ok := goodIn_r _ [6, 7, 8, 9, 10, 11, 12, 13, 14, 15, 16, 17, 18, 19, 20, 21, 22, 23, 24, 25, 26, 27, 28, 29, 30, 31, 32] (by decide +kernel) (by decide +kernel)
set_option maxRecDepth 20000 in
theorem gX4_width_X4_ok : GoodIn wsX4_width (wsV RX4 137 RX4 yX4_ok wsX4_ok) := goodIn_app (goodIn_of _ (by decide +kernel)) ggX4_width_X4_ok
theorem dX4_width_0 : decode cX4_width 0 = .ok (.aload_n 0, 1) := by decide +kernel
theorem dX4_width_1 : decode cX4_width 1 = .ok (.aload_n 0, 1) := by decide +kernel
theorem dX4_width_2 : decode cX4_width 2 = .ok (.getfield 52, 3) := by decide +kernel
theorem dX4_width_5 : decode cX4_width 5 = .ok (.invokevirtual 137, 3) := by decide +kernel
theorem dX4_width_8 : decode cX4_width 8 = .ok (.ireturn, 1) := by decide +kernel
set_option maxRecDepth 20000 in
theorem ggX4_height_X4_ok : GoodIn wsX4_height wsX4_ok := goodIn_r _ [6, 7, 8, 9, 10, 11, 12, 13, 14, 15, 16, 17, 18, 19, 20, 21, 22, 23, 24, 25, 26, 27, 28, 29, 30, 31, 32] (by decide +kernel) (by decide +kernel)
set_option maxRecDepth 20000 in
theorem gX4_height_X4_ok : GoodIn wsX4_height (wsV RX4 137 RX4 yX4_ok wsX4_ok) := goodIn_app (goodIn_of _ (by decide +kernel)) ggX4_height_X4_ok
theorem dX4_height_0 : decode cX4_height 0 = .ok (.aload_n 0, 1) := by decide +kernel
theorem dX4_height_1 : decode cX4_height 1 = .ok (.aload_n 0, 1) := by decide +kernel
theorem dX4_height_2 : decode cX4_height 2 = .ok (.getfield 59, 3) := by decide +kernel
theorem dX4_height_5 : decode cX4_height 5 = .ok (.invokevirtual 137, 3) := by decide +kernel
theorem dX4_height_8 : decode cX4_height 8 = .ok (.ireturn, 1) := by decide +kernel
theorem dX4_wallsThere_0 : decode cX4_wallsThere 0 = .ok (.iconst 0, 1) := by decide +kernel
theorem dX4_wallsThere_1 : decode cX4_wallsThere 1 = .ok (.istore_n 1, 1) := by decide +kernel
theorem dX4_wallsThere_2 : decode cX4_wallsThere 2 = .ok (.iconst 0, 1) := by decide +kernel
theorem dX4_wallsThere_3 : decode cX4_wallsThere 3 = .ok (.istore_n 2, 1) := by decide +kernel
theorem dX4_wallsThere_4 : decode cX4_wallsThere 4 = .ok (.iload_n 2, 1) := by decide +kernel
theorem dX4_wallsThere_5 : decode cX4_wallsThere 5 = .ok (.aload_n 0, 1) := by decide +kernel
theorem dX4_wallsThere_6 : decode cX4_wallsThere 6 = .ok (.getfield 52, 3) := by decide +kernel
theorem dX4_wallsThere_9 : decode cX4_wallsThere 9 = .ok (.aload_n 0, 1) := by decide +kernel
theorem dX4_wallsThere_10 : decode cX4_wallsThere 10 = .ok (.getfield 59, 3) := by decide +kernel
theorem dX4_wallsThere_13 : decode cX4_wallsThere 13 = .ok (.imul, 1) := by decide +kernel
theorem dX4_wallsThere_14 : decode cX4_wallsThere 14 = .ok (.if_icmp .ge 26, 3) := by decide +kernel
theorem dX4_wallsThere_17 : decode cX4_wallsThere 17 = .ok (.iload_n 1, 1) := by decide +kernel
theorem dX4_wallsThere_18 : decode cX4_wallsThere 18 = .ok (.aload_n 0, 1) := by decide +kernel
theorem dX4_wallsThere_19 : decode cX4_wallsThere 19 = .ok (.getfield 9, 3) := by decide +kernel
theorem dX4_wallsThere_22 : decode cX4_wallsThere 22 = .ok (.iload_n 2, 1) := by decide +kernel
theorem dX4_wallsThere_23 : decode cX4_wallsThere 23 = .ok (.baload, 1) := by decide +kernel
theorem dX4_wallsThere_24 : decode cX4_wallsThere 24 = .ok (.ifCond .eq 7, 3) := by decide +kernel
theorem dX4_wallsThere_27 : decode cX4_wallsThere 27 = .ok (.iconst 1, 1) := by decide +kernel
theorem dX4_wallsThere_28 : decode cX4_wallsThere 28 = .ok (.goto 4, 3) := by decide +kernel
theorem dX4_wallsThere_31 : decode cX4_wallsThere 31 = .ok (.iconst 0, 1) := by decide +kernel
theorem dX4_wallsThere_32 : decode cX4_wallsThere 32 = .ok (.iadd, 1) := by decide +kernel
theorem dX4_wallsThere_33 : decode cX4_wallsThere 33 = .ok (.istore_n 1, 1) := by decide +kernel
theorem dX4_wallsThere_34 : decode cX4_wallsThere 34 = .ok (.iinc 2 1, 3) := by decide +kernel
theorem dX4_wallsThere_37 : decode cX4_wallsThere 37 = .ok (.goto (-33), 3) := by decide +kernel
theorem dX4_wallsThere_40 : decode cX4_wallsThere 40 = .ok (.iload_n 1, 1) := by decide +kernel
theorem dX4_wallsThere_41 : decode cX4_wallsThere 41 = .ok (.ireturn, 1) := by decide +kernel
set_option maxRecDepth 20000 in
theorem ggX4_walls_X4_wallsThere : GoodIn wsX4_walls wsX4_wallsThere := goodIn_r _ [5, 6, 7, 8, 14, 15, 16, 17, 18, 19, 20, 21, 22, 23, 24, 25, 26, 27, 28, 29, 30, 31, 32, 33, 34, 35, 36, 37, 38] (by decide +kernel) (by decide +kernel)
set_option maxRecDepth 20000 in
theorem gX4_walls_X4_wallsThere : GoodIn wsX4_walls (wsV RX4 143 RX4 yX4_wallsThere wsX4_wallsThere) := goodIn_app (goodIn_of _ (by decide +kernel)) ggX4_walls_X4_wallsThere
set_option maxRecDepth 20000 in
theorem ggX4_walls_X4_ok : GoodIn wsX4_walls wsX4_ok := goodIn_r _ [12, 13, 14, 15, 16, 17, 18, 19, 20, 21, 22, 23, 24, 25, 26, 27, 28, 29, 30, 31, 32, 33, 34, 35, 36, 37, 38] (by decide +kernel) (by decide +kernel)
set_option maxRecDepth 20000 in
theorem gX4_walls_X4_ok : GoodIn wsX4_walls (wsV RX4 137 RX4 yX4_ok wsX4_ok) := goodIn_app (goodIn_of _ (by decide +kernel)) ggX4_walls_X4_ok
theorem dX4_walls_0 : decode cX4_walls 0 = .ok (.aload_n 0, 1) := by decide +kernel
theorem dX4_walls_1 : decode cX4_walls 1 = .ok (.aload_n 0, 1) := by decide +kernel
theorem dX4_walls_2 : decode cX4_walls 2 = .ok (.invokevirtual 143, 3) := by decide +kernel
theorem dX4_walls_5 : decode cX4_walls 5 = .ok (.invokevirtual 137, 3) := by decide +kernel
theorem dX4_walls_8 : decode cX4_walls 8 = .ok (.ireturn, 1) := by decide +kernel
set_option maxRecDepth 20000 in
theorem ggX4_rolls_X4_ok : GoodIn wsX4_rolls wsX4_ok := goodIn_r _ [6, 7, 8, 9, 10, 11, 12, 13, 14, 15, 16, 17, 18, 19, 20, 21, 22, 23, 24, 25, 26, 27, 28, 29, 30, 31, 32] (by decide +kernel) (by decide +kernel)
set_option maxRecDepth 20000 in
theorem gX4_rolls_X4_ok : GoodIn wsX4_rolls (wsV RX4 137 RX4 yX4_ok wsX4_ok) := goodIn_app (goodIn_of _ (by decide +kernel)) ggX4_rolls_X4_ok
theorem dX4_rolls_0 : decode cX4_rolls 0 = .ok (.aload_n 0, 1) := by decide +kernel
theorem dX4_rolls_1 : decode cX4_rolls 1 = .ok (.aload_n 0, 1) := by decide +kernel
theorem dX4_rolls_2 : decode cX4_rolls 2 = .ok (.getfield 71, 3) := by decide +kernel
theorem dX4_rolls_5 : decode cX4_rolls 5 = .ok (.invokevirtual 137, 3) := by decide +kernel
theorem dX4_rolls_8 : decode cX4_rolls 8 = .ok (.ireturn, 1) := by decide +kernel
set_option maxRecDepth 20000 in
theorem ggX4_prints_X4_ok : GoodIn wsX4_prints wsX4_ok := goodIn_r _ [6, 7, 8, 9, 10, 11, 12, 13, 14, 15, 16, 17, 18, 19, 20, 21, 22, 23, 24, 25, 26, 27, 28, 29, 30, 31, 32] (by decide +kernel) (by decide +kernel)
set_option maxRecDepth 20000 in
theorem gX4_prints_X4_ok : GoodIn wsX4_prints (wsV RX4 137 RX4 yX4_ok wsX4_ok) := goodIn_app (goodIn_of _ (by decide +kernel)) ggX4_prints_X4_ok
theorem dX4_prints_0 : decode cX4_prints 0 = .ok (.aload_n 0, 1) := by decide +kernel
theorem dX4_prints_1 : decode cX4_prints 1 = .ok (.aload_n 0, 1) := by decide +kernel
theorem dX4_prints_2 : decode cX4_prints 2 = .ok (.getfield 74, 3) := by decide +kernel
theorem dX4_prints_5 : decode cX4_prints 5 = .ok (.invokevirtual 137, 3) := by decide +kernel
theorem dX4_prints_8 : decode cX4_prints 8 = .ok (.ireturn, 1) := by decide +kernel
set_option maxRecDepth 20000 in
theorem ggX4_cellsWith_X4_isIn : GoodIn wsX4_cellsWith wsX4_isIn := goodIn_r _ [8] (by decide +kernel) (by decide +kernel)
set_option maxRecDepth 20000 in
theorem gX4_cellsWith_X4_isIn : GoodIn wsX4_cellsWith (va_wsS RX4 55 yX4_isIn wsX4_isIn) := goodIn_app (goodIn_of _ (by decide +kernel)) ggX4_cellsWith_X4_isIn
set_option maxRecDepth 20000 in
theorem ggX4_cellsWith_X4_no : GoodIn wsX4_cellsWith wsX4_no := goodIn_r _ [12, 1, 13, 14, 15, 16, 17, 18, 19, 20, 21, 22, 23, 24, 25, 26, 27, 28, 29, 30, 31, 32, 33, 34, 35, 36, 37] (by decide +kernel) (by decide +kernel)
set_option maxRecDepth 20000 in
theorem gX4_cellsWith_X4_no : GoodIn wsX4_cellsWith (wsV RX4 109 RX4 yX4_no wsX4_no) := goodIn_app (goodIn_of _ (by decide +kernel)) ggX4_cellsWith_X4_no
theorem dX4_cellsWith_0 : decode cX4_cellsWith 0 = .ok (.aload_n 0, 1) := by decide +kernel
theorem dX4_cellsWith_1 : decode cX4_cellsWith 1 = .ok (.iconst 0, 1) := by decide +kernel
theorem dX4_cellsWith_2 : decode cX4_cellsWith 2 = .ok (.putfield 48, 3) := by decide +kernel
theorem dX4_cellsWith_5 : decode cX4_cellsWith 5 = .ok (.iload_n 1, 1) := by decide +kernel
theorem dX4_cellsWith_6 : decode cX4_cellsWith 6 = .ok (.iconst 0, 1) := by decide +kernel
theorem dX4_cellsWith_7 : decode cX4_cellsWith 7 = .ok (.bipush 9, 2) := by decide +kernel
theorem dX4_cellsWith_9 : decode cX4_cellsWith 9 = .ok (.invokestatic 55, 3) := by decide +kernel
theorem dX4_cellsWith_12 : decode cX4_cellsWith 12 = .ok (.ifCond .ne 9, 3) := by decide +kernel
theorem dX4_cellsWith_15 : decode cX4_cellsWith 15 = .ok (.aload_n 0, 1) := by decide +kernel
theorem dX4_cellsWith_16 : decode cX4_cellsWith 16 = .ok (.iconst 1, 1) := by decide +kernel
theorem dX4_cellsWith_17 : decode cX4_cellsWith 17 = .ok (.invokevirtual 109, 3) := by decide +kernel
theorem dX4_cellsWith_20 : decode cX4_cellsWith 20 = .ok (.ireturn, 1) := by decide +kernel
theorem dX4_cellsWith_21 : decode cX4_cellsWith 21 = .ok (.iconst 0, 1) := by decide +kernel
theorem dX4_cellsWith_22 : decode cX4_cellsWith 22 = .ok (.istore_n 2, 1) := by decide +kernel
theorem dX4_cellsWith_23 : decode cX4_cellsWith 23 = .ok (.iconst 0, 1) := by decide +kernel
theorem dX4_cellsWith_24 : decode cX4_cellsWith 24 = .ok (.istore_n 3, 1) := by decide +kernel
theorem dX4_cellsWith_25 : decode cX4_cellsWith 25 = .ok (.iload_n 3, 1) := by decide +kernel
theorem dX4_cellsWith_26 : decode cX4_cellsWith 26 = .ok (.aload_n 0, 1) := by decide +kernel
theorem dX4_cellsWith_27 : decode cX4_cellsWith 27 = .ok (.getfield 52, 3) := by decide +kernel
theorem dX4_cellsWith_30 : decode cX4_cellsWith 30 = .ok (.aload_n 0, 1) := by decide +kernel
theorem dX4_cellsWith_31 : decode cX4_cellsWith 31 = .ok (.getfield 59, 3) := by decide +kernel
theorem dX4_cellsWith_34 : decode cX4_cellsWith 34 = .ok (.imul, 1) := by decide +kernel
theorem dX4_cellsWith_35 : decode cX4_cellsWith 35 = .ok (.if_icmp .ge 27, 3) := by decide +kernel
theorem dX4_cellsWith_38 : decode cX4_cellsWith 38 = .ok (.iload_n 2, 1) := by decide +kernel
theorem dX4_cellsWith_39 : decode cX4_cellsWith 39 = .ok (.aload_n 0, 1) := by decide +kernel
theorem dX4_cellsWith_40 : decode cX4_cellsWith 40 = .ok (.getfield 13, 3) := by decide +kernel
theorem dX4_cellsWith_43 : decode cX4_cellsWith 43 = .ok (.iload_n 3, 1) := by decide +kernel
theorem dX4_cellsWith_44 : decode cX4_cellsWith 44 = .ok (.iaload, 1) := by decide +kernel
theorem dX4_cellsWith_45 : decode cX4_cellsWith 45 = .ok (.iload_n 1, 1) := by decide +kernel
theorem dX4_cellsWith_46 : decode cX4_cellsWith 46 = .ok (.if_icmp .ne 7, 3) := by decide +kernel
theorem dX4_cellsWith_49 : decode cX4_cellsWith 49 = .ok (.iconst 1, 1) := by decide +kernel
theorem dX4_cellsWith_50 : decode cX4_cellsWith 50 = .ok (.goto 4, 3) := by decide +kernel
theorem dX4_cellsWith_53 : decode cX4_cellsWith 53 = .ok (.iconst 0, 1) := by decide +kernel
theorem dX4_cellsWith_54 : decode cX4_cellsWith 54 = .ok (.iadd, 1) := by decide +kernel
theorem dX4_cellsWith_55 : decode cX4_cellsWith 55 = .ok (.istore_n 2, 1) := by decide +kernel
theorem dX4_cellsWith_56 : decode cX4_cellsWith 56 = .ok (.iinc 3 1, 3) := by decide +kernel
theorem dX4_cellsWith_59 : decode cX4_cellsWith 59 = .ok (.goto (-34), 3) := by decide +kernel
theorem dX4_cellsWith_62 : decode cX4_cellsWith 62 = .ok (.iload_n 2, 1) := by decide +kernel
theorem dX4_cellsWith_63 : decode cX4_cellsWith 63 = .ok (.ireturn, 1) := by decide +kernel
theorem dX4_reach_0 : decode cX4_reach 0 = .ok (.bipush 49, 2) := by decide +kernel
theorem dX4_reach_2 : decode cX4_reach 2 = .ok (.aload_n 0, 1) := by decide +kernel
theorem dX4_reach_3 : decode cX4_reach 3 = .ok (.getfield 87, 3) := by decide +kernel
theorem dX4_reach_6 : decode cX4_reach 6 = .ok (.imul, 1) := by decide +kernel
theorem dX4_reach_7 : decode cX4_reach 7 = .ok (.bipush 7, 2) := by decide +kernel
theorem dX4_reach_9 : decode cX4_reach 9 = .ok (.aload_n 0, 1) := by decide +kernel
theorem dX4_reach_10 : decode cX4_reach 10 = .ok (.getfield 90, 3) := by decide +kernel
theorem dX4_reach_13 : decode cX4_reach 13 = .ok (.imul, 1) := by decide +kernel
theorem dX4_reach_14 : decode cX4_reach 14 = .ok (.iadd, 1) := by decide +kernel
theorem dX4_reach_15 : decode cX4_reach 15 = .ok (.aload_n 0, 1) := by decide +kernel
theorem dX4_reach_16 : decode cX4_reach 16 = .ok (.getfield 93, 3) := by decide +kernel
theorem dX4_reach_19 : decode cX4_reach 19 = .ok (.iadd, 1) := by decide +kernel
theorem dX4_reach_20 : decode cX4_reach 20 = .ok (.bipush 8, 2) := by decide +kernel
theorem dX4_reach_22 : decode cX4_reach 22 = .ok (.isub, 1) := by decide +kernel
theorem dX4_reach_23 : decode cX4_reach 23 = .ok (.istore_n 2, 1) := by decide +kernel
theorem dX4_reach_24 : decode cX4_reach 24 = .ok (.aload_n 0, 1) := by decide +kernel
theorem dX4_reach_25 : decode cX4_reach 25 = .ok (.getfield 23, 3) := by decide +kernel
theorem dX4_reach_28 : decode cX4_reach 28 = .ok (.iload_n 2, 1) := by decide +kernel
theorem dX4_reach_29 : decode cX4_reach 29 = .ok (.iaload, 1) := by decide +kernel
theorem dX4_reach_30 : decode cX4_reach 30 = .ok (.iconst (-1), 1) := by decide +kernel
theorem dX4_reach_31 : decode cX4_reach 31 = .ok (.if_icmp .eq 4, 3) := by decide +kernel
theorem dX4_reach_34 : decode cX4_reach 34 = .ok (.return_, 1) := by decide +kernel
theorem dX4_reach_35 : decode cX4_reach 35 = .ok (.aload_n 0, 1) := by decide +kernel
theorem dX4_reach_36 : decode cX4_reach 36 = .ok (.getfield 23, 3) := by decide +kernel
theorem dX4_reach_39 : decode cX4_reach 39 = .ok (.iload_n 2, 1) := by decide +kernel
theorem dX4_reach_40 : decode cX4_reach 40 = .ok (.iload_n 1, 1) := by decide +kernel
theorem dX4_reach_41 : decode cX4_reach 41 = .ok (.iastore, 1) := by decide +kernel
theorem dX4_reach_42 : decode cX4_reach 42 = .ok (.aload_n 0, 1) := by decide +kernel
theorem dX4_reach_43 : decode cX4_reach 43 = .ok (.getfield 26, 3) := by decide +kernel
theorem dX4_reach_46 : decode cX4_reach 46 = .ok (.aload_n 0, 1) := by decide +kernel
theorem dX4_reach_47 : decode cX4_reach 47 = .ok (.getfield 147, 3) := by decide +kernel
theorem dX4_reach_50 : decode cX4_reach 50 = .ok (.aload_n 0, 1) := by decide +kernel
theorem dX4_reach_51 : decode cX4_reach 51 = .ok (.getfield 87, 3) := by decide +kernel
theorem dX4_reach_54 : decode cX4_reach 54 = .ok (.iastore, 1) := by decide +kernel
theorem dX4_reach_55 : decode cX4_reach 55 = .ok (.aload_n 0, 1) := by decide +kernel
theorem dX4_reach_56 : decode cX4_reach 56 = .ok (.getfield 29, 3) := by decide +kernel
theorem dX4_reach_59 : decode cX4_reach 59 = .ok (.aload_n 0, 1) := by decide +kernel
theorem dX4_reach_60 : decode cX4_reach 60 = .ok (.getfield 147, 3) := by decide +kernel
theorem dX4_reach_63 : decode cX4_reach 63 = .ok (.aload_n 0, 1) := by decide +kernel
theorem dX4_reach_64 : decode cX4_reach 64 = .ok (.getfield 90, 3) := by decide +kernel
theorem dX4_reach_67 : decode cX4_reach 67 = .ok (.iastore, 1) := by decide +kernel
theorem dX4_reach_68 : decode cX4_reach 68 = .ok (.aload_n 0, 1) := by decide +kernel
theorem dX4_reach_69 : decode cX4_reach 69 = .ok (.getfield 32, 3) := by decide +kernel
theorem dX4_reach_72 : decode cX4_reach 72 = .ok (.aload_n 0, 1) := by decide +kernel
theorem dX4_reach_73 : decode cX4_reach 73 = .ok (.getfield 147, 3) := by decide +kernel
theorem dX4_reach_76 : decode cX4_reach 76 = .ok (.aload_n 0, 1) := by decide +kernel
theorem dX4_reach_77 : decode cX4_reach 77 = .ok (.getfield 93, 3) := by decide +kernel
theorem dX4_reach_80 : decode cX4_reach 80 = .ok (.iastore, 1) := by decide +kernel
theorem dX4_reach_81 : decode cX4_reach 81 = .ok (.aload_n 0, 1) := by decide +kernel
theorem dX4_reach_82 : decode cX4_reach 82 = .ok (.getfield 35, 3) := by decide +kernel
theorem dX4_reach_85 : decode cX4_reach 85 = .ok (.aload_n 0, 1) := by decide +kernel
theorem dX4_reach_86 : decode cX4_reach 86 = .ok (.getfield 147, 3) := by decide +kernel
theorem dX4_reach_89 : decode cX4_reach 89 = .ok (.aload_n 0, 1) := by decide +kernel
theorem dX4_reach_90 : decode cX4_reach 90 = .ok (.getfield 96, 3) := by decide +kernel
theorem dX4_reach_93 : decode cX4_reach 93 = .ok (.iastore, 1) := by decide +kernel
theorem dX4_reach_94 : decode cX4_reach 94 = .ok (.aload_n 0, 1) := by decide +kernel
theorem dX4_reach_95 : decode cX4_reach 95 = .ok (.dup, 1) := by decide +kernel
theorem dX4_reach_96 : decode cX4_reach 96 = .ok (.getfield 147, 3) := by decide +kernel
theorem dX4_reach_99 : decode cX4_reach 99 = .ok (.iconst 1, 1) := by decide +kernel
theorem dX4_reach_100 : decode cX4_reach 100 = .ok (.iadd, 1) := by decide +kernel
theorem dX4_reach_101 : decode cX4_reach 101 = .ok (.putfield 147, 3) := by decide +kernel
theorem dX4_reach_104 : decode cX4_reach 104 = .ok (.return_, 1) := by decide +kernel
theorem dX4_farOf_0 : decode cX4_farOf 0 = .ok (.aload_n 0, 1) := by decide +kernel
theorem dX4_farOf_1 : decode cX4_farOf 1 = .ok (.getfield 23, 3) := by decide +kernel
theorem dX4_farOf_4 : decode cX4_farOf 4 = .ok (.bipush 49, 2) := by decide +kernel
theorem dX4_farOf_6 : decode cX4_farOf 6 = .ok (.aload_n 0, 1) := by decide +kernel
theorem dX4_farOf_7 : decode cX4_farOf 7 = .ok (.getfield 26, 3) := by decide +kernel
theorem dX4_farOf_10 : decode cX4_farOf 10 = .ok (.iload_n 1, 1) := by decide +kernel
theorem dX4_farOf_11 : decode cX4_farOf 11 = .ok (.iaload, 1) := by decide +kernel
theorem dX4_farOf_12 : decode cX4_farOf 12 = .ok (.imul, 1) := by decide +kernel
theorem dX4_farOf_13 : decode cX4_farOf 13 = .ok (.bipush 7, 2) := by decide +kernel
theorem dX4_farOf_15 : decode cX4_farOf 15 = .ok (.aload_n 0, 1) := by decide +kernel
theorem dX4_farOf_16 : decode cX4_farOf 16 = .ok (.getfield 29, 3) := by decide +kernel
theorem dX4_farOf_19 : decode cX4_farOf 19 = .ok (.iload_n 1, 1) := by decide +kernel
theorem dX4_farOf_20 : decode cX4_farOf 20 = .ok (.iaload, 1) := by decide +kernel
theorem dX4_farOf_21 : decode cX4_farOf 21 = .ok (.imul, 1) := by decide +kernel
theorem dX4_farOf_22 : decode cX4_farOf 22 = .ok (.iadd, 1) := by decide +kernel
theorem dX4_farOf_23 : decode cX4_farOf 23 = .ok (.aload_n 0, 1) := by decide +kernel
theorem dX4_farOf_24 : decode cX4_farOf 24 = .ok (.getfield 32, 3) := by decide +kernel
theorem dX4_farOf_27 : decode cX4_farOf 27 = .ok (.iload_n 1, 1) := by decide +kernel
theorem dX4_farOf_28 : decode cX4_farOf 28 = .ok (.iaload, 1) := by decide +kernel
theorem dX4_farOf_29 : decode cX4_farOf 29 = .ok (.iadd, 1) := by decide +kernel
theorem dX4_farOf_30 : decode cX4_farOf 30 = .ok (.bipush 8, 2) := by decide +kernel
theorem dX4_farOf_32 : decode cX4_farOf 32 = .ok (.isub, 1) := by decide +kernel
theorem dX4_farOf_33 : decode cX4_farOf 33 = .ok (.iaload, 1) := by decide +kernel
theorem dX4_farOf_34 : decode cX4_farOf 34 = .ok (.ireturn, 1) := by decide +kernel
set_option maxRecDepth 20000 in
theorem ggX4_spread_X4_reach : GoodIn wsX4_spread wsX4_reach := goodIn_r _ [8, 9, 10, 11, 1, 3, 2, 12, 13, 14, 15, 42, 43, 44, 45, 46, 47, 48, 49, 50, 51, 52, 53, 54, 55, 56, 57, 58, 59, 60, 61, 62, 63, 64, 65, 66] (by decide +kernel) (by decide +kernel)
set_option maxRecDepth 20000 in
theorem gX4_spread_X4_reach : GoodIn wsX4_spread (wsV RX4 150 RX4 yX4_reach wsX4_reach) := goodIn_app (goodIn_of _ (by decide +kernel)) ggX4_spread_X4_reach
set_option maxRecDepth 20000 in
theorem ggX4_spread_X4_beside : GoodIn wsX4_spread wsX4_beside := goodIn_r _ [19, 20, 21, 22, 23, 24, 7, 25, 26, 27, 28, 29, 42, 43, 44, 45, 46, 47, 48, 49, 50, 51, 52, 53, 54, 55, 56, 57, 58, 59, 60, 61, 62, 63, 64, 65, 66] (by decide +kernel) (by decide +kernel)
set_option maxRecDepth 20000 in
theorem gX4_spread_X4_beside : GoodIn wsX4_spread (wsV RX4 99 RX4 yX4_beside wsX4_beside) := goodIn_app (goodIn_of _ (by decide +kernel)) ggX4_spread_X4_beside
set_option maxRecDepth 20000 in
theorem ggX4_spread_X4_lookAt : GoodIn wsX4_spread wsX4_lookAt := goodIn_r _ [33, 3, 9, 12, 10, 13, 11, 14, 15, 42, 43, 44, 45, 46, 47, 48, 49, 50, 51, 52, 53, 54, 55, 56, 57, 58, 59, 60, 61, 62, 63, 64, 65, 66] (by decide +kernel) (by decide +kernel)
set_option maxRecDepth 20000 in
theorem gX4_spread_X4_lookAt : GoodIn wsX4_spread (wsV RX4 154 RX4 yX4_lookAt wsX4_lookAt) := goodIn_app (goodIn_of _ (by decide +kernel)) ggX4_spread_X4_lookAt
set_option maxRecDepth 20000 in
theorem ggX4_spread_X4_tip : GoodIn wsX4_spread wsX4_tip := goodIn_r _ [37, 10, 9, 11, 15, 42, 43, 44, 45, 46, 47, 48, 49, 50, 51, 52, 53, 54, 55, 56, 57, 58, 59, 60, 61, 62, 63, 64, 65, 66] (by decide +kernel) (by decide +kernel)
set_option maxRecDepth 20000 in
theorem gX4_spread_X4_tip : GoodIn wsX4_spread (wsV RX4 106 RX4 yX4_tip wsX4_tip) := goodIn_app (goodIn_of _ (by decide +kernel)) ggX4_spread_X4_tip
set_option maxRecDepth 20000 in
theorem ggX4_spread_X4_farOf : GoodIn wsX4_spread wsX4_farOf := goodIn_r _ [41, 1, 3, 12, 13, 42, 43, 44, 45, 46, 47, 48, 49, 50, 51, 52, 53, 54, 55, 56, 57, 58, 59, 60, 61, 62, 63, 64, 65, 66] (by decide +kernel) (by decide +kernel)
set_option maxRecDepth 20000 in
theorem gX4_spread_X4_farOf : GoodIn wsX4_spread (wsV RX4 157 RX4 yX4_farOf wsX4_farOf) := goodIn_app (goodIn_of _ (by decide +kernel)) ggX4_spread_X4_farOf
theorem dX4_spread_0 : decode cX4_spread 0 = .ok (.iconst 0, 1) := by decide +kernel
theorem dX4_spread_1 : decode cX4_spread 1 = .ok (.istore_n 1, 1) := by decide +kernel
theorem dX4_spread_2 : decode cX4_spread 2 = .ok (.iload_n 1, 1) := by decide +kernel
theorem dX4_spread_3 : decode cX4_spread 3 = .ok (.aload_n 0, 1) := by decide +kernel
theorem dX4_spread_4 : decode cX4_spread 4 = .ok (.getfield 23, 3) := by decide +kernel
theorem dX4_spread_7 : decode cX4_spread 7 = .ok (.arraylength, 1) := by decide +kernel
theorem dX4_spread_8 : decode cX4_spread 8 = .ok (.if_icmp .ge 16, 3) := by decide +kernel
theorem dX4_spread_11 : decode cX4_spread 11 = .ok (.aload_n 0, 1) := by decide +kernel
theorem dX4_spread_12 : decode cX4_spread 12 = .ok (.getfield 23, 3) := by decide +kernel
theorem dX4_spread_15 : decode cX4_spread 15 = .ok (.iload_n 1, 1) := by decide +kernel
theorem dX4_spread_16 : decode cX4_spread 16 = .ok (.iconst (-1), 1) := by decide +kernel
theorem dX4_spread_17 : decode cX4_spread 17 = .ok (.iastore, 1) := by decide +kernel
theorem dX4_spread_18 : decode cX4_spread 18 = .ok (.iinc 1 1, 3) := by decide +kernel
theorem dX4_spread_21 : decode cX4_spread 21 = .ok (.goto (-19), 3) := by decide +kernel
theorem dX4_spread_24 : decode cX4_spread 24 = .ok (.aload_n 0, 1) := by decide +kernel
theorem dX4_spread_25 : decode cX4_spread 25 = .ok (.iconst 0, 1) := by decide +kernel
theorem dX4_spread_26 : decode cX4_spread 26 = .ok (.putfield 147, 3) := by decide +kernel
theorem dX4_spread_29 : decode cX4_spread 29 = .ok (.aload_n 0, 1) := by decide +kernel
theorem dX4_spread_30 : decode cX4_spread 30 = .ok (.iconst 0, 1) := by decide +kernel
theorem dX4_spread_31 : decode cX4_spread 31 = .ok (.invokevirtual 150, 3) := by decide +kernel
theorem dX4_spread_34 : decode cX4_spread 34 = .ok (.iconst 0, 1) := by decide +kernel
theorem dX4_spread_35 : decode cX4_spread 35 = .ok (.istore_n 1, 1) := by decide +kernel
theorem dX4_spread_36 : decode cX4_spread 36 = .ok (.iload_n 1, 1) := by decide +kernel
theorem dX4_spread_37 : decode cX4_spread 37 = .ok (.aload_n 0, 1) := by decide +kernel
theorem dX4_spread_38 : decode cX4_spread 38 = .ok (.getfield 147, 3) := by decide +kernel
theorem dX4_spread_41 : decode cX4_spread 41 = .ok (.if_icmp .ge 64, 3) := by decide +kernel
theorem dX4_spread_44 : decode cX4_spread 44 = .ok (.iconst 0, 1) := by decide +kernel
theorem dX4_spread_45 : decode cX4_spread 45 = .ok (.istore_n 2, 1) := by decide +kernel
theorem dX4_spread_46 : decode cX4_spread 46 = .ok (.iload_n 2, 1) := by decide +kernel
theorem dX4_spread_47 : decode cX4_spread 47 = .ok (.iconst 4, 1) := by decide +kernel
theorem dX4_spread_48 : decode cX4_spread 48 = .ok (.if_icmp .ge 51, 3) := by decide +kernel
theorem dX4_spread_51 : decode cX4_spread 51 = .ok (.aload_n 0, 1) := by decide +kernel
theorem dX4_spread_52 : decode cX4_spread 52 = .ok (.aload_n 0, 1) := by decide +kernel
theorem dX4_spread_53 : decode cX4_spread 53 = .ok (.getfield 26, 3) := by decide +kernel
theorem dX4_spread_56 : decode cX4_spread 56 = .ok (.iload_n 1, 1) := by decide +kernel
theorem dX4_spread_57 : decode cX4_spread 57 = .ok (.iaload, 1) := by decide +kernel
theorem dX4_spread_58 : decode cX4_spread 58 = .ok (.iload_n 2, 1) := by decide +kernel
theorem dX4_spread_59 : decode cX4_spread 59 = .ok (.invokevirtual 99, 3) := by decide +kernel
theorem dX4_spread_62 : decode cX4_spread 62 = .ok (.istore_n 3, 1) := by decide +kernel
theorem dX4_spread_63 : decode cX4_spread 63 = .ok (.iload_n 3, 1) := by decide +kernel
theorem dX4_spread_64 : decode cX4_spread 64 = .ok (.iconst (-1), 1) := by decide +kernel
theorem dX4_spread_65 : decode cX4_spread 65 = .ok (.if_icmp .ne 6, 3) := by decide +kernel
theorem dX4_spread_68 : decode cX4_spread 68 = .ok (.goto 25, 3) := by decide +kernel
theorem dX4_spread_71 : decode cX4_spread 71 = .ok (.aload_n 0, 1) := by decide +kernel
theorem dX4_spread_72 : decode cX4_spread 72 = .ok (.iload_n 1, 1) := by decide +kernel
theorem dX4_spread_73 : decode cX4_spread 73 = .ok (.invokevirtual 154, 3) := by decide +kernel
theorem dX4_spread_76 : decode cX4_spread 76 = .ok (.aload_n 0, 1) := by decide +kernel
theorem dX4_spread_77 : decode cX4_spread 77 = .ok (.iload_n 2, 1) := by decide +kernel
theorem dX4_spread_78 : decode cX4_spread 78 = .ok (.iload_n 3, 1) := by decide +kernel
theorem dX4_spread_79 : decode cX4_spread 79 = .ok (.invokevirtual 106, 3) := by decide +kernel
theorem dX4_spread_82 : decode cX4_spread 82 = .ok (.aload_n 0, 1) := by decide +kernel
theorem dX4_spread_83 : decode cX4_spread 83 = .ok (.aload_n 0, 1) := by decide +kernel
theorem dX4_spread_84 : decode cX4_spread 84 = .ok (.iload_n 1, 1) := by decide +kernel
theorem dX4_spread_85 : decode cX4_spread 85 = .ok (.invokevirtual 157, 3) := by decide +kernel
theorem dX4_spread_88 : decode cX4_spread 88 = .ok (.iconst 1, 1) := by decide +kernel
theorem dX4_spread_89 : decode cX4_spread 89 = .ok (.iadd, 1) := by decide +kernel
theorem dX4_spread_90 : decode cX4_spread 90 = .ok (.invokevirtual 150, 3) := by decide +kernel
theorem dX4_spread_93 : decode cX4_spread 93 = .ok (.iinc 2 1, 3) := by decide +kernel
theorem dX4_spread_96 : decode cX4_spread 96 = .ok (.goto (-50), 3) := by decide +kernel
theorem dX4_spread_99 : decode cX4_spread 99 = .ok (.iinc 1 1, 3) := by decide +kernel
theorem dX4_spread_102 : decode cX4_spread 102 = .ok (.goto (-66), 3) := by decide +kernel
theorem dX4_spread_105 : decode cX4_spread 105 = .ok (.return_, 1) := by decide +kernel
set_option maxRecDepth 20000 in
theorem ggX4_fewestTo_X4_farOf : GoodIn wsX4_fewestTo wsX4_farOf := goodIn_r _ [8, 9, 2, 3, 10, 11, 12, 13, 14, 15, 16, 17, 18, 19, 20, 21, 22, 23, 24, 25, 26, 27, 28, 29, 30, 31, 32, 33, 34, 35] (by decide +kernel) (by decide +kernel)
set_option maxRecDepth 20000 in
theorem gX4_fewestTo_X4_farOf : GoodIn wsX4_fewestTo (wsV RX4 157 RX4 yX4_farOf wsX4_farOf) := goodIn_app (goodIn_of _ (by decide +kernel)) ggX4_fewestTo_X4_farOf
theorem dX4_fewestTo_0 : decode cX4_fewestTo 0 = .ok (.iconst 0, 1) := by decide +kernel
theorem dX4_fewestTo_1 : decode cX4_fewestTo 1 = .ok (.istore_n 3, 1) := by decide +kernel
theorem dX4_fewestTo_2 : decode cX4_fewestTo 2 = .ok (.iload_n 3, 1) := by decide +kernel
theorem dX4_fewestTo_3 : decode cX4_fewestTo 3 = .ok (.aload_n 0, 1) := by decide +kernel
theorem dX4_fewestTo_4 : decode cX4_fewestTo 4 = .ok (.getfield 147, 3) := by decide +kernel
theorem dX4_fewestTo_7 : decode cX4_fewestTo 7 = .ok (.if_icmp .ge 39, 3) := by decide +kernel
theorem dX4_fewestTo_10 : decode cX4_fewestTo 10 = .ok (.aload_n 0, 1) := by decide +kernel
theorem dX4_fewestTo_11 : decode cX4_fewestTo 11 = .ok (.getfield 26, 3) := by decide +kernel
theorem dX4_fewestTo_14 : decode cX4_fewestTo 14 = .ok (.iload_n 3, 1) := by decide +kernel
theorem dX4_fewestTo_15 : decode cX4_fewestTo 15 = .ok (.iaload, 1) := by decide +kernel
theorem dX4_fewestTo_16 : decode cX4_fewestTo 16 = .ok (.iload_n 1, 1) := by decide +kernel
theorem dX4_fewestTo_17 : decode cX4_fewestTo 17 = .ok (.if_icmp .ne 23, 3) := by decide +kernel
theorem dX4_fewestTo_20 : decode cX4_fewestTo 20 = .ok (.iload_n 2, 1) := by decide +kernel
theorem dX4_fewestTo_21 : decode cX4_fewestTo 21 = .ok (.ifCond .eq 13, 3) := by decide +kernel
theorem dX4_fewestTo_24 : decode cX4_fewestTo 24 = .ok (.aload_n 0, 1) := by decide +kernel
theorem dX4_fewestTo_25 : decode cX4_fewestTo 25 = .ok (.getfield 29, 3) := by decide +kernel
theorem dX4_fewestTo_28 : decode cX4_fewestTo 28 = .ok (.iload_n 3, 1) := by decide +kernel
theorem dX4_fewestTo_29 : decode cX4_fewestTo 29 = .ok (.iaload, 1) := by decide +kernel
theorem dX4_fewestTo_30 : decode cX4_fewestTo 30 = .ok (.iload_n 2, 1) := by decide +kernel
theorem dX4_fewestTo_31 : decode cX4_fewestTo 31 = .ok (.if_icmp .ne 9, 3) := by decide +kernel
theorem dX4_fewestTo_34 : decode cX4_fewestTo 34 = .ok (.aload_n 0, 1) := by decide +kernel
theorem dX4_fewestTo_35 : decode cX4_fewestTo 35 = .ok (.iload_n 3, 1) := by decide +kernel
theorem dX4_fewestTo_36 : decode cX4_fewestTo 36 = .ok (.invokevirtual 157, 3) := by decide +kernel
theorem dX4_fewestTo_39 : decode cX4_fewestTo 39 = .ok (.ireturn, 1) := by decide +kernel
theorem dX4_fewestTo_40 : decode cX4_fewestTo 40 = .ok (.iinc 3 1, 3) := by decide +kernel
theorem dX4_fewestTo_43 : decode cX4_fewestTo 43 = .ok (.goto (-41), 3) := by decide +kernel
theorem dX4_fewestTo_46 : decode cX4_fewestTo 46 = .ok (.iconst (-1), 1) := by decide +kernel
theorem dX4_fewestTo_47 : decode cX4_fewestTo 47 = .ok (.ireturn, 1) := by decide +kernel
set_option maxRecDepth 20000 in
theorem ggX4_fewest_X4_look : GoodIn wsX4_fewest wsX4_look := goodIn_r _ [5, 6, 7, 8, 9, 10, 11, 12, 13, 58, 59, 60, 61, 62, 63, 64, 65, 66, 67, 68, 69, 70, 71, 72, 73, 74, 75, 76, 77, 78, 79, 80, 81, 82] (by decide +kernel) (by decide +kernel)
set_option maxRecDepth 20000 in
theorem gX4_fewest_X4_look : GoodIn wsX4_fewest (wsV RX4 103 RX4 yX4_look wsX4_look) := goodIn_app (goodIn_of _ (by decide +kernel)) ggX4_fewest_X4_look
set_option maxRecDepth 20000 in
theorem ggX4_fewest_X4_spread : GoodIn wsX4_fewest wsX4_spread := goodIn_r _ [17, 18, 19, 20, 21, 22, 23, 4, 24, 7, 9, 11, 25, 26, 27, 13, 28, 29, 30, 31, 32, 33, 34, 35, 36, 37, 38, 39, 40, 41, 42, 43, 44, 45, 46, 47, 48, 49, 50, 51, 52, 53, 58, 59, 60, 61, 62, 63, 64, 65, 66, 67, 68, 69, 70, 71, 72, 73, 74, 75, 76, 77, 78, 79, 80, 81, 82] (by decide +kernel) (by decide +kernel)
set_option maxRecDepth 20000 in
theorem gX4_fewest_X4_spread : GoodIn wsX4_fewest (wsV RX4 160 RX4 yX4_spread wsX4_spread) := goodIn_app (goodIn_of _ (by decide +kernel)) ggX4_fewest_X4_spread
set_option maxRecDepth 20000 in
theorem ggX4_fewest_X4_fewestTo : GoodIn wsX4_fewest wsX4_fewestTo := goodIn_r _ [57, 19, 20, 25, 50, 51, 52, 4, 53, 18, 26, 58, 59, 60, 61, 62, 63, 64, 65, 66, 67, 68, 69, 70, 71, 72, 73, 74, 75, 76, 77, 78, 79, 80, 81, 82] (by decide +kernel) (by decide +kernel)
set_option maxRecDepth 20000 in
theorem gX4_fewest_X4_fewestTo : GoodIn wsX4_fewest (wsV RX4 163 RX4 yX4_fewestTo wsX4_fewestTo) := goodIn_app (goodIn_of _ (by decide +kernel)) ggX4_fewest_X4_fewestTo
theorem dX4_fewest_0 : decode cX4_fewest 0 = .ok (.aload_n 0, 1) := by decide +kernel
theorem dX4_fewest_1 : decode cX4_fewest 1 = .ok (.invokevirtual 103, 3) := by decide +kernel
theorem dX4_fewest_4 : decode cX4_fewest 4 = .ok (.aload_n 0, 1) := by decide +kernel
theorem dX4_fewest_5 : decode cX4_fewest 5 = .ok (.invokevirtual 160, 3) := by decide +kernel
theorem dX4_fewest_8 : decode cX4_fewest 8 = .ok (.aload_n 0, 1) := by decide +kernel
theorem dX4_fewest_9 : decode cX4_fewest 9 = .ok (.iload_n 1, 1) := by decide +kernel
theorem dX4_fewest_10 : decode cX4_fewest 10 = .ok (.iload_n 2, 1) := by decide +kernel
theorem dX4_fewest_11 : decode cX4_fewest 11 = .ok (.invokevirtual 163, 3) := by decide +kernel
theorem dX4_fewest_14 : decode cX4_fewest 14 = .ok (.ireturn, 1) := by decide +kernel
set_option maxRecDepth 20000 in
theorem ggX4_fewestRolls_X4_isCell : GoodIn wsX4_fewestRolls wsX4_isCell := goodIn_r _ [7, 2, 8, 9, 10, 6, 11, 67, 68, 69, 70, 71, 72, 73, 74, 75, 76, 77, 78, 79, 80, 81, 82, 83, 84, 85, 86, 87, 88, 89, 90, 91] (by decide +kernel) (by decide +kernel)
set_option maxRecDepth 20000 in
theorem gX4_fewestRolls_X4_isCell : GoodIn wsX4_fewestRolls (wsV RX4 83 RX4 yX4_isCell wsX4_isCell) := goodIn_app (goodIn_of _ (by decide +kernel)) ggX4_fewestRolls_X4_isCell
set_option maxRecDepth 20000 in
theorem ggX4_fewestRolls_X4_fewest : GoodIn wsX4_fewestRolls wsX4_fewest := goodIn_r _ [15, 16, 17, 18, 6, 19, 20, 21, 22, 23, 24, 25, 26, 27, 28, 29, 30, 31, 32, 33, 34, 35, 36, 37, 38, 39, 40, 41, 42, 43, 44, 45, 2, 46, 3, 4, 5, 7, 8, 9, 10, 11, 47, 48, 49, 50, 51, 52, 53, 54, 55, 56, 57, 58, 59, 60, 61, 62, 67, 68, 69, 70, 71, 72, 73, 74, 75, 76, 77, 78, 79, 80, 81, 82, 83, 84, 85, 86, 87, 88, 89, 90, 91] (by decide +kernel) (by decide +kernel)
set_option maxRecDepth 20000 in
theorem gX4_fewestRolls_X4_fewest : GoodIn wsX4_fewestRolls (wsV RX4 166 RX4 yX4_fewest wsX4_fewest) := goodIn_app (goodIn_of _ (by decide +kernel)) ggX4_fewestRolls_X4_fewest
set_option maxRecDepth 20000 in
theorem ggX4_fewestRolls_X4_no : GoodIn wsX4_fewestRolls wsX4_no := goodIn_r _ [66, 1, 67, 68, 69, 70, 71, 72, 73, 74, 75, 76, 77, 78, 79, 80, 81, 82, 83, 84, 85, 86, 87, 88, 89, 90, 91] (by decide +kernel) (by decide +kernel)
set_option maxRecDepth 20000 in
theorem gX4_fewestRolls_X4_no : GoodIn wsX4_fewestRolls (wsV RX4 109 RX4 yX4_no wsX4_no) := goodIn_app (goodIn_of _ (by decide +kernel)) ggX4_fewestRolls_X4_no
theorem dX4_fewestRolls_0 : decode cX4_fewestRolls 0 = .ok (.aload_n 0, 1) := by decide +kernel
theorem dX4_fewestRolls_1 : decode cX4_fewestRolls 1 = .ok (.iconst 0, 1) := by decide +kernel
theorem dX4_fewestRolls_2 : decode cX4_fewestRolls 2 = .ok (.putfield 48, 3) := by decide +kernel
theorem dX4_fewestRolls_5 : decode cX4_fewestRolls 5 = .ok (.aload_n 0, 1) := by decide +kernel
theorem dX4_fewestRolls_6 : decode cX4_fewestRolls 6 = .ok (.iload_n 1, 1) := by decide +kernel
theorem dX4_fewestRolls_7 : decode cX4_fewestRolls 7 = .ok (.iload_n 2, 1) := by decide +kernel
theorem dX4_fewestRolls_8 : decode cX4_fewestRolls 8 = .ok (.invokevirtual 83, 3) := by decide +kernel
theorem dX4_fewestRolls_11 : decode cX4_fewestRolls 11 = .ok (.ifCond .eq 19, 3) := by decide +kernel
theorem dX4_fewestRolls_14 : decode cX4_fewestRolls 14 = .ok (.aload_n 0, 1) := by decide +kernel
theorem dX4_fewestRolls_15 : decode cX4_fewestRolls 15 = .ok (.aload_n 0, 1) := by decide +kernel
theorem dX4_fewestRolls_16 : decode cX4_fewestRolls 16 = .ok (.getfield 52, 3) := by decide +kernel
theorem dX4_fewestRolls_19 : decode cX4_fewestRolls 19 = .ok (.iload_n 2, 1) := by decide +kernel
theorem dX4_fewestRolls_20 : decode cX4_fewestRolls 20 = .ok (.imul, 1) := by decide +kernel
theorem dX4_fewestRolls_21 : decode cX4_fewestRolls 21 = .ok (.iload_n 1, 1) := by decide +kernel
theorem dX4_fewestRolls_22 : decode cX4_fewestRolls 22 = .ok (.iadd, 1) := by decide +kernel
theorem dX4_fewestRolls_23 : decode cX4_fewestRolls 23 = .ok (.iconst 0, 1) := by decide +kernel
theorem dX4_fewestRolls_24 : decode cX4_fewestRolls 24 = .ok (.invokevirtual 166, 3) := by decide +kernel
theorem dX4_fewestRolls_27 : decode cX4_fewestRolls 27 = .ok (.goto 8, 3) := by decide +kernel
theorem dX4_fewestRolls_30 : decode cX4_fewestRolls 30 = .ok (.aload_n 0, 1) := by decide +kernel
theorem dX4_fewestRolls_31 : decode cX4_fewestRolls 31 = .ok (.iconst 1, 1) := by decide +kernel
theorem dX4_fewestRolls_32 : decode cX4_fewestRolls 32 = .ok (.invokevirtual 109, 3) := by decide +kernel
theorem dX4_fewestRolls_35 : decode cX4_fewestRolls 35 = .ok (.ireturn, 1) := by decide +kernel
set_option maxRecDepth 20000 in
theorem ggX4_fewestRollsWithTop_X4_isCell : GoodIn wsX4_fewestRollsWithTop wsX4_isCell := goodIn_r _ [7, 2, 8, 9, 10, 6, 11, 70, 71, 72, 73, 74, 75, 76, 77, 78, 79, 80, 81, 82, 83, 84, 85, 86, 87, 88, 89, 90, 91, 92, 93, 94] (by decide +kernel) (by decide +kernel)
set_option maxRecDepth 20000 in
theorem gX4_fewestRollsWithTop_X4_isCell : GoodIn wsX4_fewestRollsWithTop (wsV RX4 83 RX4 yX4_isCell wsX4_isCell) := goodIn_app (goodIn_of _ (by decide +kernel)) ggX4_fewestRollsWithTop_X4_isCell
set_option maxRecDepth 20000 in
theorem ggX4_fewestRollsWithTop_X4_isFace : GoodIn wsX4_fewestRollsWithTop wsX4_isFace := goodIn_r _ [14, 9, 10, 6, 11] (by decide +kernel) (by decide +kernel)
set_option maxRecDepth 20000 in
theorem gX4_fewestRollsWithTop_X4_isFace : GoodIn wsX4_fewestRollsWithTop (va_wsS RX4 117 yX4_isFace wsX4_isFace) := goodIn_app (goodIn_of _ (by decide +kernel)) ggX4_fewestRollsWithTop_X4_isFace
set_option maxRecDepth 20000 in
theorem ggX4_fewestRollsWithTop_X4_fewest : GoodIn wsX4_fewestRollsWithTop wsX4_fewest := goodIn_r _ [18, 19, 20, 21, 6, 22, 23, 24, 25, 26, 27, 28, 29, 30, 31, 32, 33, 34, 35, 36, 37, 38, 39, 40, 41, 42, 43, 44, 45, 46, 47, 48, 2, 49, 3, 4, 5, 7, 8, 9, 10, 11, 50, 51, 52, 53, 54, 55, 56, 57, 58, 59, 60, 61, 62, 63, 64, 65, 70, 71, 72, 73, 74, 75, 76, 77, 78, 79, 80, 81, 82, 83, 84, 85, 86, 87, 88, 89, 90, 91, 92, 93, 94] (by decide +kernel) (by decide +kernel)
set_option maxRecDepth 20000 in
theorem gX4_fewestRollsWithTop_X4_fewest : GoodIn wsX4_fewestRollsWithTop (wsV RX4 166 RX4 yX4_fewest wsX4_fewest) := goodIn_app (goodIn_of _ (by decide +kernel)) ggX4_fewestRollsWithTop_X4_fewest
set_option maxRecDepth 20000 in
theorem ggX4_fewestRollsWithTop_X4_no : GoodIn wsX4_fewestRollsWithTop wsX4_no := goodIn_r _ [69, 1, 70, 71, 72, 73, 74, 75, 76, 77, 78, 79, 80, 81, 82, 83, 84, 85, 86, 87, 88, 89, 90, 91, 92, 93, 94] (by decide +kernel) (by decide +kernel)
set_option maxRecDepth 20000 in
theorem gX4_fewestRollsWithTop_X4_no : GoodIn wsX4_fewestRollsWithTop (wsV RX4 109 RX4 yX4_no wsX4_no) := goodIn_app (goodIn_of _ (by decide +kernel)) ggX4_fewestRollsWithTop_X4_no
theorem dX4_fewestRollsWithTop_0 : decode cX4_fewestRollsWithTop 0 = .ok (.aload_n 0, 1) := by decide +kernel
theorem dX4_fewestRollsWithTop_1 : decode cX4_fewestRollsWithTop 1 = .ok (.iconst 0, 1) := by decide +kernel
theorem dX4_fewestRollsWithTop_2 : decode cX4_fewestRollsWithTop 2 = .ok (.putfield 48, 3) := by decide +kernel
theorem dX4_fewestRollsWithTop_5 : decode cX4_fewestRollsWithTop 5 = .ok (.aload_n 0, 1) := by decide +kernel
theorem dX4_fewestRollsWithTop_6 : decode cX4_fewestRollsWithTop 6 = .ok (.iload_n 1, 1) := by decide +kernel
theorem dX4_fewestRollsWithTop_7 : decode cX4_fewestRollsWithTop 7 = .ok (.iload_n 2, 1) := by decide +kernel
theorem dX4_fewestRollsWithTop_8 : decode cX4_fewestRollsWithTop 8 = .ok (.invokevirtual 83, 3) := by decide +kernel
theorem dX4_fewestRollsWithTop_11 : decode cX4_fewestRollsWithTop 11 = .ok (.ifCond .eq 26, 3) := by decide +kernel
theorem dX4_fewestRollsWithTop_14 : decode cX4_fewestRollsWithTop 14 = .ok (.iload_n 3, 1) := by decide +kernel
theorem dX4_fewestRollsWithTop_15 : decode cX4_fewestRollsWithTop 15 = .ok (.invokestatic 117, 3) := by decide +kernel
theorem dX4_fewestRollsWithTop_18 : decode cX4_fewestRollsWithTop 18 = .ok (.ifCond .eq 19, 3) := by decide +kernel
theorem dX4_fewestRollsWithTop_21 : decode cX4_fewestRollsWithTop 21 = .ok (.aload_n 0, 1) := by decide +kernel
theorem dX4_fewestRollsWithTop_22 : decode cX4_fewestRollsWithTop 22 = .ok (.aload_n 0, 1) := by decide +kernel
theorem dX4_fewestRollsWithTop_23 : decode cX4_fewestRollsWithTop 23 = .ok (.getfield 52, 3) := by decide +kernel
theorem dX4_fewestRollsWithTop_26 : decode cX4_fewestRollsWithTop 26 = .ok (.iload_n 2, 1) := by decide +kernel
theorem dX4_fewestRollsWithTop_27 : decode cX4_fewestRollsWithTop 27 = .ok (.imul, 1) := by decide +kernel
theorem dX4_fewestRollsWithTop_28 : decode cX4_fewestRollsWithTop 28 = .ok (.iload_n 1, 1) := by decide +kernel
theorem dX4_fewestRollsWithTop_29 : decode cX4_fewestRollsWithTop 29 = .ok (.iadd, 1) := by decide +kernel
theorem dX4_fewestRollsWithTop_30 : decode cX4_fewestRollsWithTop 30 = .ok (.iload_n 3, 1) := by decide +kernel
theorem dX4_fewestRollsWithTop_31 : decode cX4_fewestRollsWithTop 31 = .ok (.invokevirtual 166, 3) := by decide +kernel
theorem dX4_fewestRollsWithTop_34 : decode cX4_fewestRollsWithTop 34 = .ok (.goto 8, 3) := by decide +kernel
theorem dX4_fewestRollsWithTop_37 : decode cX4_fewestRollsWithTop 37 = .ok (.aload_n 0, 1) := by decide +kernel
theorem dX4_fewestRollsWithTop_38 : decode cX4_fewestRollsWithTop 38 = .ok (.iconst 1, 1) := by decide +kernel
theorem dX4_fewestRollsWithTop_39 : decode cX4_fewestRollsWithTop 39 = .ok (.invokevirtual 109, 3) := by decide +kernel
theorem dX4_fewestRollsWithTop_42 : decode cX4_fewestRollsWithTop 42 = .ok (.ireturn, 1) := by decide +kernel
set_option maxRecDepth 20000 in
theorem ggX4_first_X4_fewest : GoodIn wsX4_first wsX4_fewest := goodIn_r _ [6, 7, 8, 9, 5, 10, 1, 11, 12, 13, 14, 15, 16, 17, 18, 19, 20, 21, 22, 23, 24, 25, 26, 27, 28, 29, 30, 31, 32, 33, 34, 35, 36, 37, 38, 39, 40, 41, 42, 43, 44, 45, 46, 47, 48, 49, 50, 51, 52, 53, 54, 55, 56, 57, 58, 59, 60, 61, 62, 63, 64, 65, 66, 67, 68, 69, 70, 71, 72, 73, 74, 75, 76, 77, 78, 79, 80, 81, 82, 83, 84, 85, 86] (by decide +kernel) (by decide +kernel)
set_option maxRecDepth 20000 in
theorem gX4_first_X4_fewest : GoodIn wsX4_first (wsV RX4 166 RX4 yX4_fewest wsX4_fewest) := goodIn_app (goodIn_of _ (by decide +kernel)) ggX4_first_X4_fewest
set_option maxRecDepth 20000 in
theorem ggX4_first_X4_beside : GoodIn wsX4_first wsX4_beside := goodIn_r _ [35, 36, 37, 38, 39, 40, 5, 41, 42, 43, 44, 45, 62, 63, 64, 65, 66, 67, 68, 69, 70, 71, 72, 73, 74, 75, 76, 77, 78, 79, 80, 81, 82, 83, 84, 85, 86] (by decide +kernel) (by decide +kernel)
set_option maxRecDepth 20000 in
theorem gX4_first_X4_beside : GoodIn wsX4_first (wsV RX4 99 RX4 yX4_beside wsX4_beside) := goodIn_app (goodIn_of _ (by decide +kernel)) ggX4_first_X4_beside
set_option maxRecDepth 20000 in
theorem ggX4_first_X4_look : GoodIn wsX4_first wsX4_look := goodIn_r _ [10, 1, 11, 12, 13, 14, 15, 16, 17, 62, 63, 64, 65, 66, 67, 68, 69, 70, 71, 72, 73, 74, 75, 76, 77, 78, 79, 80, 81, 82, 83, 84, 85, 86] (by decide +kernel) (by decide +kernel)
set_option maxRecDepth 20000 in
theorem gX4_first_X4_look : GoodIn wsX4_first (wsV RX4 103 RX4 yX4_look wsX4_look) := goodIn_app (goodIn_of _ (by decide +kernel)) ggX4_first_X4_look
set_option maxRecDepth 20000 in
theorem ggX4_first_X4_tip : GoodIn wsX4_first wsX4_tip := goodIn_r _ [53, 13, 11, 15, 17, 62, 63, 64, 65, 66, 67, 68, 69, 70, 71, 72, 73, 74, 75, 76, 77, 78, 79, 80, 81, 82, 83, 84, 85, 86] (by decide +kernel) (by decide +kernel)
set_option maxRecDepth 20000 in
theorem gX4_first_X4_tip : GoodIn wsX4_first (wsV RX4 106 RX4 yX4_tip wsX4_tip) := goodIn_app (goodIn_of _ (by decide +kernel)) ggX4_first_X4_tip
set_option maxRecDepth 20000 in
theorem ggX4_first_X4_spread : GoodIn wsX4_first wsX4_spread := goodIn_r _ [21, 22, 23, 24, 25, 26, 27, 5, 28, 11, 13, 15, 29, 30, 31, 17, 32, 33, 34, 35, 36, 37, 38, 39, 40, 41, 42, 43, 44, 45, 46, 47, 48, 49, 50, 51, 52, 53, 54, 55, 56, 57, 62, 63, 64, 65, 66, 67, 68, 69, 70, 71, 72, 73, 74, 75, 76, 77, 78, 79, 80, 81, 82, 83, 84, 85, 86] (by decide +kernel) (by decide +kernel)
set_option maxRecDepth 20000 in
theorem gX4_first_X4_spread : GoodIn wsX4_first (wsV RX4 160 RX4 yX4_spread wsX4_spread) := goodIn_app (goodIn_of _ (by decide +kernel)) ggX4_first_X4_spread
set_option maxRecDepth 20000 in
theorem ggX4_first_X4_fewestTo : GoodIn wsX4_first wsX4_fewestTo := goodIn_r _ [61, 23, 24, 29, 54, 55, 56, 5, 57, 22, 30, 62, 63, 64, 65, 66, 67, 68, 69, 70, 71, 72, 73, 74, 75, 76, 77, 78, 79, 80, 81, 82, 83, 84, 85, 86] (by decide +kernel) (by decide +kernel)
set_option maxRecDepth 20000 in
theorem gX4_first_X4_fewestTo : GoodIn wsX4_first (wsV RX4 163 RX4 yX4_fewestTo wsX4_fewestTo) := goodIn_app (goodIn_of _ (by decide +kernel)) ggX4_first_X4_fewestTo
theorem dX4_first_0 : decode cX4_first 0 = .ok (.aload_n 0, 1) := by decide +kernel
theorem dX4_first_1 : decode cX4_first 1 = .ok (.iload_n 1, 1) := by decide +kernel
theorem dX4_first_2 : decode cX4_first 2 = .ok (.iload_n 2, 1) := by decide +kernel
theorem dX4_first_3 : decode cX4_first 3 = .ok (.invokevirtual 166, 3) := by decide +kernel
theorem dX4_first_6 : decode cX4_first 6 = .ok (.istore_n 3, 1) := by decide +kernel
theorem dX4_first_7 : decode cX4_first 7 = .ok (.iconst 0, 1) := by decide +kernel
theorem dX4_first_8 : decode cX4_first 8 = .ok (.istore 4, 2) := by decide +kernel
theorem dX4_first_10 : decode cX4_first 10 = .ok (.iload 4, 2) := by decide +kernel
theorem dX4_first_12 : decode cX4_first 12 = .ok (.iconst 4, 1) := by decide +kernel
theorem dX4_first_13 : decode cX4_first 13 = .ok (.if_icmp .ge 65, 3) := by decide +kernel
theorem dX4_first_16 : decode cX4_first 16 = .ok (.iload_n 3, 1) := by decide +kernel
theorem dX4_first_17 : decode cX4_first 17 = .ok (.ifCond .le 61, 3) := by decide +kernel
theorem dX4_first_20 : decode cX4_first 20 = .ok (.aload_n 0, 1) := by decide +kernel
theorem dX4_first_21 : decode cX4_first 21 = .ok (.aload_n 0, 1) := by decide +kernel
theorem dX4_first_22 : decode cX4_first 22 = .ok (.getfield 77, 3) := by decide +kernel
theorem dX4_first_25 : decode cX4_first 25 = .ok (.iload 4, 2) := by decide +kernel
theorem dX4_first_27 : decode cX4_first 27 = .ok (.invokevirtual 99, 3) := by decide +kernel
theorem dX4_first_30 : decode cX4_first 30 = .ok (.istore 5, 2) := by decide +kernel
theorem dX4_first_32 : decode cX4_first 32 = .ok (.iload 5, 2) := by decide +kernel
theorem dX4_first_34 : decode cX4_first 34 = .ok (.iconst (-1), 1) := by decide +kernel
theorem dX4_first_35 : decode cX4_first 35 = .ok (.if_icmp .ne 6, 3) := by decide +kernel
theorem dX4_first_38 : decode cX4_first 38 = .ok (.goto 34, 3) := by decide +kernel
theorem dX4_first_41 : decode cX4_first 41 = .ok (.aload_n 0, 1) := by decide +kernel
theorem dX4_first_42 : decode cX4_first 42 = .ok (.invokevirtual 103, 3) := by decide +kernel
theorem dX4_first_45 : decode cX4_first 45 = .ok (.aload_n 0, 1) := by decide +kernel
theorem dX4_first_46 : decode cX4_first 46 = .ok (.iload 4, 2) := by decide +kernel
theorem dX4_first_48 : decode cX4_first 48 = .ok (.iload 5, 2) := by decide +kernel
theorem dX4_first_50 : decode cX4_first 50 = .ok (.invokevirtual 106, 3) := by decide +kernel
theorem dX4_first_53 : decode cX4_first 53 = .ok (.aload_n 0, 1) := by decide +kernel
theorem dX4_first_54 : decode cX4_first 54 = .ok (.invokevirtual 160, 3) := by decide +kernel
theorem dX4_first_57 : decode cX4_first 57 = .ok (.aload_n 0, 1) := by decide +kernel
theorem dX4_first_58 : decode cX4_first 58 = .ok (.iload_n 1, 1) := by decide +kernel
theorem dX4_first_59 : decode cX4_first 59 = .ok (.iload_n 2, 1) := by decide +kernel
theorem dX4_first_60 : decode cX4_first 60 = .ok (.invokevirtual 163, 3) := by decide +kernel
theorem dX4_first_63 : decode cX4_first 63 = .ok (.iload_n 3, 1) := by decide +kernel
theorem dX4_first_64 : decode cX4_first 64 = .ok (.iconst 1, 1) := by decide +kernel
theorem dX4_first_65 : decode cX4_first 65 = .ok (.isub, 1) := by decide +kernel
theorem dX4_first_66 : decode cX4_first 66 = .ok (.if_icmp .ne 6, 3) := by decide +kernel
theorem dX4_first_69 : decode cX4_first 69 = .ok (.iload 4, 2) := by decide +kernel
theorem dX4_first_71 : decode cX4_first 71 = .ok (.ireturn, 1) := by decide +kernel
theorem dX4_first_72 : decode cX4_first 72 = .ok (.iinc 4 1, 3) := by decide +kernel
theorem dX4_first_75 : decode cX4_first 75 = .ok (.goto (-65), 3) := by decide +kernel
theorem dX4_first_78 : decode cX4_first 78 = .ok (.iconst (-1), 1) := by decide +kernel
theorem dX4_first_79 : decode cX4_first 79 = .ok (.ireturn, 1) := by decide +kernel
set_option maxRecDepth 20000 in
theorem ggX4_firstRoll_X4_isCell : GoodIn wsX4_firstRoll wsX4_isCell := goodIn_r _ [7, 2, 8, 9, 10, 6, 11, 74, 75, 76, 77, 78, 79, 80, 81, 82, 83, 84, 85, 86, 87, 88, 89, 90, 91, 92, 93, 94, 95, 96, 97, 98] (by decide +kernel) (by decide +kernel)
set_option maxRecDepth 20000 in
theorem gX4_firstRoll_X4_isCell : GoodIn wsX4_firstRoll (wsV RX4 83 RX4 yX4_isCell wsX4_isCell) := goodIn_app (goodIn_of _ (by decide +kernel)) ggX4_firstRoll_X4_isCell
set_option maxRecDepth 20000 in
theorem ggX4_firstRoll_X4_isFace : GoodIn wsX4_firstRoll wsX4_isFace := goodIn_r _ [14, 9, 10, 6, 11] (by decide +kernel) (by decide +kernel)
set_option maxRecDepth 20000 in
theorem gX4_firstRoll_X4_isFace : GoodIn wsX4_firstRoll (va_wsS RX4 117 yX4_isFace wsX4_isFace) := goodIn_app (goodIn_of _ (by decide +kernel)) ggX4_firstRoll_X4_isFace
set_option maxRecDepth 20000 in
theorem ggX4_firstRoll_X4_first : GoodIn wsX4_firstRoll wsX4_first := goodIn_r _ [18, 19, 20, 21, 22, 6, 23, 24, 25, 26, 27, 28, 29, 30, 31, 32, 33, 34, 35, 36, 37, 38, 39, 40, 41, 42, 43, 44, 45, 46, 47, 48, 49, 50, 51, 52, 2, 53, 3, 4, 5, 7, 8, 9, 10, 11, 54, 55, 56, 57, 58, 59, 60, 61, 62, 63, 64, 65, 66, 67, 68, 69, 74, 75, 76, 77, 78, 79, 80, 81, 82, 83, 84, 85, 86, 87, 88, 89, 90, 91, 92, 93, 94, 95, 96, 97, 98] (by decide +kernel) (by decide +kernel)
set_option maxRecDepth 20000 in
theorem gX4_firstRoll_X4_first : GoodIn wsX4_firstRoll (wsV RX4 169 RX4 yX4_first wsX4_first) := goodIn_app (goodIn_of _ (by decide +kernel)) ggX4_firstRoll_X4_first
set_option maxRecDepth 20000 in
theorem ggX4_firstRoll_X4_no : GoodIn wsX4_firstRoll wsX4_no := goodIn_r _ [73, 1, 74, 75, 76, 77, 78, 79, 80, 81, 82, 83, 84, 85, 86, 87, 88, 89, 90, 91, 92, 93, 94, 95, 96, 97, 98] (by decide +kernel) (by decide +kernel)
set_option maxRecDepth 20000 in
theorem gX4_firstRoll_X4_no : GoodIn wsX4_firstRoll (wsV RX4 109 RX4 yX4_no wsX4_no) := goodIn_app (goodIn_of _ (by decide +kernel)) ggX4_firstRoll_X4_no
theorem dX4_firstRoll_0 : decode cX4_firstRoll 0 = .ok (.aload_n 0, 1) := by decide +kernel
theorem dX4_firstRoll_1 : decode cX4_firstRoll 1 = .ok (.iconst 0, 1) := by decide +kernel
theorem dX4_firstRoll_2 : decode cX4_firstRoll 2 = .ok (.putfield 48, 3) := by decide +kernel
theorem dX4_firstRoll_5 : decode cX4_firstRoll 5 = .ok (.aload_n 0, 1) := by decide +kernel
theorem dX4_firstRoll_6 : decode cX4_firstRoll 6 = .ok (.iload_n 1, 1) := by decide +kernel
theorem dX4_firstRoll_7 : decode cX4_firstRoll 7 = .ok (.iload_n 2, 1) := by decide +kernel
theorem dX4_firstRoll_8 : decode cX4_firstRoll 8 = .ok (.invokevirtual 83, 3) := by decide +kernel
theorem dX4_firstRoll_11 : decode cX4_firstRoll 11 = .ok (.ifCond .eq 26, 3) := by decide +kernel
theorem dX4_firstRoll_14 : decode cX4_firstRoll 14 = .ok (.iload_n 3, 1) := by decide +kernel
theorem dX4_firstRoll_15 : decode cX4_firstRoll 15 = .ok (.invokestatic 117, 3) := by decide +kernel
theorem dX4_firstRoll_18 : decode cX4_firstRoll 18 = .ok (.ifCond .eq 19, 3) := by decide +kernel
theorem dX4_firstRoll_21 : decode cX4_firstRoll 21 = .ok (.aload_n 0, 1) := by decide +kernel
theorem dX4_firstRoll_22 : decode cX4_firstRoll 22 = .ok (.aload_n 0, 1) := by decide +kernel
theorem dX4_firstRoll_23 : decode cX4_firstRoll 23 = .ok (.getfield 52, 3) := by decide +kernel
theorem dX4_firstRoll_26 : decode cX4_firstRoll 26 = .ok (.iload_n 2, 1) := by decide +kernel
theorem dX4_firstRoll_27 : decode cX4_firstRoll 27 = .ok (.imul, 1) := by decide +kernel
theorem dX4_firstRoll_28 : decode cX4_firstRoll 28 = .ok (.iload_n 1, 1) := by decide +kernel
theorem dX4_firstRoll_29 : decode cX4_firstRoll 29 = .ok (.iadd, 1) := by decide +kernel
theorem dX4_firstRoll_30 : decode cX4_firstRoll 30 = .ok (.iload_n 3, 1) := by decide +kernel
theorem dX4_firstRoll_31 : decode cX4_firstRoll 31 = .ok (.invokevirtual 169, 3) := by decide +kernel
theorem dX4_firstRoll_34 : decode cX4_firstRoll 34 = .ok (.goto 8, 3) := by decide +kernel
theorem dX4_firstRoll_37 : decode cX4_firstRoll 37 = .ok (.aload_n 0, 1) := by decide +kernel
theorem dX4_firstRoll_38 : decode cX4_firstRoll 38 = .ok (.iconst 1, 1) := by decide +kernel
theorem dX4_firstRoll_39 : decode cX4_firstRoll 39 = .ok (.invokevirtual 109, 3) := by decide +kernel
theorem dX4_firstRoll_42 : decode cX4_firstRoll 42 = .ok (.ireturn, 1) := by decide +kernel
set_option maxRecDepth 20000 in
theorem ggX4_topsOn_X4_fewestTo : GoodIn wsX4_topsOn wsX4_fewestTo := goodIn_r _ [5, 6, 7, 8, 9, 10, 11, 4, 12, 13, 14, 15, 16, 17, 18, 19, 20, 21, 22, 23, 24, 25, 26, 27, 28, 29, 30, 31, 32, 33, 34, 35, 36, 37, 38, 39] (by decide +kernel) (by decide +kernel)
set_option maxRecDepth 20000 in
theorem gX4_topsOn_X4_fewestTo : GoodIn wsX4_topsOn (wsV RX4 163 RX4 yX4_fewestTo wsX4_fewestTo) := goodIn_app (goodIn_of _ (by decide +kernel)) ggX4_topsOn_X4_fewestTo
theorem dX4_topsOn_0 : decode cX4_topsOn 0 = .ok (.iconst 0, 1) := by decide +kernel
theorem dX4_topsOn_1 : decode cX4_topsOn 1 = .ok (.istore_n 2, 1) := by decide +kernel
theorem dX4_topsOn_2 : decode cX4_topsOn 2 = .ok (.iconst 1, 1) := by decide +kernel
theorem dX4_topsOn_3 : decode cX4_topsOn 3 = .ok (.istore_n 3, 1) := by decide +kernel
theorem dX4_topsOn_4 : decode cX4_topsOn 4 = .ok (.iload_n 3, 1) := by decide +kernel
theorem dX4_topsOn_5 : decode cX4_topsOn 5 = .ok (.bipush 6, 2) := by decide +kernel
theorem dX4_topsOn_7 : decode cX4_topsOn 7 = .ok (.if_icmp .gt 27, 3) := by decide +kernel
theorem dX4_topsOn_10 : decode cX4_topsOn 10 = .ok (.iload_n 2, 1) := by decide +kernel
theorem dX4_topsOn_11 : decode cX4_topsOn 11 = .ok (.aload_n 0, 1) := by decide +kernel
theorem dX4_topsOn_12 : decode cX4_topsOn 12 = .ok (.iload_n 1, 1) := by decide +kernel
theorem dX4_topsOn_13 : decode cX4_topsOn 13 = .ok (.iload_n 3, 1) := by decide +kernel
theorem dX4_topsOn_14 : decode cX4_topsOn 14 = .ok (.invokevirtual 163, 3) := by decide +kernel
theorem dX4_topsOn_17 : decode cX4_topsOn 17 = .ok (.iconst (-1), 1) := by decide +kernel
theorem dX4_topsOn_18 : decode cX4_topsOn 18 = .ok (.if_icmp .ne 7, 3) := by decide +kernel
theorem dX4_topsOn_21 : decode cX4_topsOn 21 = .ok (.iconst 0, 1) := by decide +kernel
theorem dX4_topsOn_22 : decode cX4_topsOn 22 = .ok (.goto 4, 3) := by decide +kernel
theorem dX4_topsOn_25 : decode cX4_topsOn 25 = .ok (.iconst 1, 1) := by decide +kernel
theorem dX4_topsOn_26 : decode cX4_topsOn 26 = .ok (.iadd, 1) := by decide +kernel
theorem dX4_topsOn_27 : decode cX4_topsOn 27 = .ok (.istore_n 2, 1) := by decide +kernel
theorem dX4_topsOn_28 : decode cX4_topsOn 28 = .ok (.iinc 3 1, 3) := by decide +kernel
theorem dX4_topsOn_31 : decode cX4_topsOn 31 = .ok (.goto (-27), 3) := by decide +kernel
theorem dX4_topsOn_34 : decode cX4_topsOn 34 = .ok (.iload_n 2, 1) := by decide +kernel
theorem dX4_topsOn_35 : decode cX4_topsOn 35 = .ok (.ireturn, 1) := by decide +kernel
set_option maxRecDepth 20000 in
theorem ggX4_topsAt_X4_isCell : GoodIn wsX4_topsAt wsX4_isCell := goodIn_r _ [7, 2, 8, 9, 10, 6, 11, 67, 68, 69, 70, 71, 72, 73, 74, 75, 76, 77, 78, 79, 80, 81, 82, 83, 84, 85, 86, 87, 88, 89, 90, 91] (by decide +kernel) (by decide +kernel)
set_option maxRecDepth 20000 in
theorem gX4_topsAt_X4_isCell : GoodIn wsX4_topsAt (wsV RX4 83 RX4 yX4_isCell wsX4_isCell) := goodIn_app (goodIn_of _ (by decide +kernel)) ggX4_topsAt_X4_isCell
set_option maxRecDepth 20000 in
theorem ggX4_topsAt_X4_no : GoodIn wsX4_topsAt wsX4_no := goodIn_r _ [15, 1, 67, 68, 69, 70, 71, 72, 73, 74, 75, 76, 77, 78, 79, 80, 81, 82, 83, 84, 85, 86, 87, 88, 89, 90, 91] (by decide +kernel) (by decide +kernel)
set_option maxRecDepth 20000 in
theorem gX4_topsAt_X4_no : GoodIn wsX4_topsAt (wsV RX4 109 RX4 yX4_no wsX4_no) := goodIn_app (goodIn_of _ (by decide +kernel)) ggX4_topsAt_X4_no
set_option maxRecDepth 20000 in
theorem ggX4_topsAt_X4_look : GoodIn wsX4_topsAt wsX4_look := goodIn_r _ [19, 20, 21, 22, 23, 24, 25, 26, 27, 67, 68, 69, 70, 71, 72, 73, 74, 75, 76, 77, 78, 79, 80, 81, 82, 83, 84, 85, 86, 87, 88, 89, 90, 91] (by decide +kernel) (by decide +kernel)
set_option maxRecDepth 20000 in
theorem gX4_topsAt_X4_look : GoodIn wsX4_topsAt (wsV RX4 103 RX4 yX4_look wsX4_look) := goodIn_app (goodIn_of _ (by decide +kernel)) ggX4_topsAt_X4_look
set_option maxRecDepth 20000 in
theorem ggX4_topsAt_X4_spread : GoodIn wsX4_topsAt wsX4_spread := goodIn_r _ [31, 32, 33, 34, 35, 36, 37, 6, 38, 21, 23, 25, 39, 40, 41, 27, 42, 43, 44, 45, 2, 46, 3, 4, 5, 7, 8, 9, 10, 11, 47, 48, 49, 50, 51, 52, 53, 54, 55, 56, 57, 58, 67, 68, 69, 70, 71, 72, 73, 74, 75, 76, 77, 78, 79, 80, 81, 82, 83, 84, 85, 86, 87, 88, 89, 90, 91] (by decide +kernel) (by decide +kernel)
set_option maxRecDepth 20000 in
theorem gX4_topsAt_X4_spread : GoodIn wsX4_topsAt (wsV RX4 160 RX4 yX4_spread wsX4_spread) := goodIn_app (goodIn_of _ (by decide +kernel)) ggX4_topsAt_X4_spread
set_option maxRecDepth 20000 in
theorem ggX4_topsAt_X4_topsOn : GoodIn wsX4_topsAt wsX4_topsOn := goodIn_r _ [62, 63, 64, 65, 6, 66, 33, 34, 39, 55, 56, 57, 58, 32, 40, 67, 68, 69, 70, 71, 72, 73, 74, 75, 76, 77, 78, 79, 80, 81, 82, 83, 84, 85, 86, 87, 88, 89, 90, 91] (by decide +kernel) (by decide +kernel)
set_option maxRecDepth 20000 in
theorem gX4_topsAt_X4_topsOn : GoodIn wsX4_topsAt (wsV RX4 172 RX4 yX4_topsOn wsX4_topsOn) := goodIn_app (goodIn_of _ (by decide +kernel)) ggX4_topsAt_X4_topsOn
theorem dX4_topsAt_0 : decode cX4_topsAt 0 = .ok (.aload_n 0, 1) := by decide +kernel
theorem dX4_topsAt_1 : decode cX4_topsAt 1 = .ok (.iconst 0, 1) := by decide +kernel
theorem dX4_topsAt_2 : decode cX4_topsAt 2 = .ok (.putfield 48, 3) := by decide +kernel
theorem dX4_topsAt_5 : decode cX4_topsAt 5 = .ok (.aload_n 0, 1) := by decide +kernel
theorem dX4_topsAt_6 : decode cX4_topsAt 6 = .ok (.iload_n 1, 1) := by decide +kernel
theorem dX4_topsAt_7 : decode cX4_topsAt 7 = .ok (.iload_n 2, 1) := by decide +kernel
theorem dX4_topsAt_8 : decode cX4_topsAt 8 = .ok (.invokevirtual 83, 3) := by decide +kernel
theorem dX4_topsAt_11 : decode cX4_topsAt 11 = .ok (.ifCond .ne 9, 3) := by decide +kernel
theorem dX4_topsAt_14 : decode cX4_topsAt 14 = .ok (.aload_n 0, 1) := by decide +kernel
theorem dX4_topsAt_15 : decode cX4_topsAt 15 = .ok (.iconst 1, 1) := by decide +kernel
theorem dX4_topsAt_16 : decode cX4_topsAt 16 = .ok (.invokevirtual 109, 3) := by decide +kernel
theorem dX4_topsAt_19 : decode cX4_topsAt 19 = .ok (.ireturn, 1) := by decide +kernel
theorem dX4_topsAt_20 : decode cX4_topsAt 20 = .ok (.aload_n 0, 1) := by decide +kernel
theorem dX4_topsAt_21 : decode cX4_topsAt 21 = .ok (.invokevirtual 103, 3) := by decide +kernel
theorem dX4_topsAt_24 : decode cX4_topsAt 24 = .ok (.aload_n 0, 1) := by decide +kernel
theorem dX4_topsAt_25 : decode cX4_topsAt 25 = .ok (.invokevirtual 160, 3) := by decide +kernel
theorem dX4_topsAt_28 : decode cX4_topsAt 28 = .ok (.aload_n 0, 1) := by decide +kernel
theorem dX4_topsAt_29 : decode cX4_topsAt 29 = .ok (.aload_n 0, 1) := by decide +kernel
theorem dX4_topsAt_30 : decode cX4_topsAt 30 = .ok (.getfield 52, 3) := by decide +kernel
theorem dX4_topsAt_33 : decode cX4_topsAt 33 = .ok (.iload_n 2, 1) := by decide +kernel
theorem dX4_topsAt_34 : decode cX4_topsAt 34 = .ok (.imul, 1) := by decide +kernel
theorem dX4_topsAt_35 : decode cX4_topsAt 35 = .ok (.iload_n 1, 1) := by decide +kernel
theorem dX4_topsAt_36 : decode cX4_topsAt 36 = .ok (.iadd, 1) := by decide +kernel
theorem dX4_topsAt_37 : decode cX4_topsAt 37 = .ok (.invokevirtual 172, 3) := by decide +kernel
theorem dX4_topsAt_40 : decode cX4_topsAt 40 = .ok (.ireturn, 1) := by decide +kernel
set_option maxRecDepth 20000 in
theorem ggX4_cellsWithinReach_X4_look : GoodIn wsX4_cellsWithinReach wsX4_look := goodIn_r _ [8, 9, 10, 11, 12, 13, 14, 15, 16, 59, 60, 61, 62, 63, 64, 65, 66, 67, 68, 69, 70, 71, 72, 73, 74, 75, 76, 77, 78, 79, 80, 81, 82, 83] (by decide +kernel) (by decide +kernel)
set_option maxRecDepth 20000 in
theorem gX4_cellsWithinReach_X4_look : GoodIn wsX4_cellsWithinReach (wsV RX4 103 RX4 yX4_look wsX4_look) := goodIn_app (goodIn_of _ (by decide +kernel)) ggX4_cellsWithinReach_X4_look
set_option maxRecDepth 20000 in
theorem ggX4_cellsWithinReach_X4_spread : GoodIn wsX4_cellsWithinReach wsX4_spread := goodIn_r _ [20, 21, 22, 23, 24, 25, 26, 7, 27, 10, 12, 14, 28, 29, 30, 16, 31, 32, 33, 34, 2, 35, 36, 37, 38, 39, 3, 40, 41, 42, 43, 44, 45, 46, 47, 48, 49, 50, 51, 52, 53, 54, 59, 60, 61, 62, 63, 64, 65, 66, 67, 68, 69, 70, 71, 72, 73, 74, 75, 76, 77, 78, 79, 80, 81, 82, 83] (by decide +kernel) (by decide +kernel)
set_option maxRecDepth 20000 in
theorem gX4_cellsWithinReach_X4_spread : GoodIn wsX4_cellsWithinReach (wsV RX4 160 RX4 yX4_spread wsX4_spread) := goodIn_app (goodIn_of _ (by decide +kernel)) ggX4_cellsWithinReach_X4_spread
set_option maxRecDepth 20000 in
theorem ggX4_cellsWithinReach_X4_fewestTo : GoodIn wsX4_cellsWithinReach wsX4_fewestTo := goodIn_r _ [58, 22, 23, 28, 51, 52, 53, 7, 54, 21, 29, 59, 60, 61, 62, 63, 64, 65, 66, 67, 68, 69, 70, 71, 72, 73, 74, 75, 76, 77, 78, 79, 80, 81, 82, 83] (by decide +kernel) (by decide +kernel)
set_option maxRecDepth 20000 in
theorem gX4_cellsWithinReach_X4_fewestTo : GoodIn wsX4_cellsWithinReach (wsV RX4 163 RX4 yX4_fewestTo wsX4_fewestTo) := goodIn_app (goodIn_of _ (by decide +kernel)) ggX4_cellsWithinReach_X4_fewestTo
theorem dX4_cellsWithinReach_0 : decode cX4_cellsWithinReach 0 = .ok (.aload_n 0, 1) := by decide +kernel
theorem dX4_cellsWithinReach_1 : decode cX4_cellsWithinReach 1 = .ok (.iconst 0, 1) := by decide +kernel
theorem dX4_cellsWithinReach_2 : decode cX4_cellsWithinReach 2 = .ok (.putfield 48, 3) := by decide +kernel
theorem dX4_cellsWithinReach_5 : decode cX4_cellsWithinReach 5 = .ok (.aload_n 0, 1) := by decide +kernel
theorem dX4_cellsWithinReach_6 : decode cX4_cellsWithinReach 6 = .ok (.invokevirtual 103, 3) := by decide +kernel
theorem dX4_cellsWithinReach_9 : decode cX4_cellsWithinReach 9 = .ok (.aload_n 0, 1) := by decide +kernel
theorem dX4_cellsWithinReach_10 : decode cX4_cellsWithinReach 10 = .ok (.invokevirtual 160, 3) := by decide +kernel
theorem dX4_cellsWithinReach_13 : decode cX4_cellsWithinReach 13 = .ok (.iconst 0, 1) := by decide +kernel
theorem dX4_cellsWithinReach_14 : decode cX4_cellsWithinReach 14 = .ok (.istore_n 1, 1) := by decide +kernel
theorem dX4_cellsWithinReach_15 : decode cX4_cellsWithinReach 15 = .ok (.iconst 0, 1) := by decide +kernel
theorem dX4_cellsWithinReach_16 : decode cX4_cellsWithinReach 16 = .ok (.istore_n 2, 1) := by decide +kernel
theorem dX4_cellsWithinReach_17 : decode cX4_cellsWithinReach 17 = .ok (.iload_n 2, 1) := by decide +kernel
theorem dX4_cellsWithinReach_18 : decode cX4_cellsWithinReach 18 = .ok (.aload_n 0, 1) := by decide +kernel
theorem dX4_cellsWithinReach_19 : decode cX4_cellsWithinReach 19 = .ok (.getfield 52, 3) := by decide +kernel
theorem dX4_cellsWithinReach_22 : decode cX4_cellsWithinReach 22 = .ok (.aload_n 0, 1) := by decide +kernel
theorem dX4_cellsWithinReach_23 : decode cX4_cellsWithinReach 23 = .ok (.getfield 59, 3) := by decide +kernel
theorem dX4_cellsWithinReach_26 : decode cX4_cellsWithinReach 26 = .ok (.imul, 1) := by decide +kernel
theorem dX4_cellsWithinReach_27 : decode cX4_cellsWithinReach 27 = .ok (.if_icmp .ge 27, 3) := by decide +kernel
theorem dX4_cellsWithinReach_30 : decode cX4_cellsWithinReach 30 = .ok (.iload_n 1, 1) := by decide +kernel
theorem dX4_cellsWithinReach_31 : decode cX4_cellsWithinReach 31 = .ok (.aload_n 0, 1) := by decide +kernel
theorem dX4_cellsWithinReach_32 : decode cX4_cellsWithinReach 32 = .ok (.iload_n 2, 1) := by decide +kernel
theorem dX4_cellsWithinReach_33 : decode cX4_cellsWithinReach 33 = .ok (.iconst 0, 1) := by decide +kernel
theorem dX4_cellsWithinReach_34 : decode cX4_cellsWithinReach 34 = .ok (.invokevirtual 163, 3) := by decide +kernel
theorem dX4_cellsWithinReach_37 : decode cX4_cellsWithinReach 37 = .ok (.iconst (-1), 1) := by decide +kernel
theorem dX4_cellsWithinReach_38 : decode cX4_cellsWithinReach 38 = .ok (.if_icmp .ne 7, 3) := by decide +kernel
theorem dX4_cellsWithinReach_41 : decode cX4_cellsWithinReach 41 = .ok (.iconst 0, 1) := by decide +kernel
theorem dX4_cellsWithinReach_42 : decode cX4_cellsWithinReach 42 = .ok (.goto 4, 3) := by decide +kernel
theorem dX4_cellsWithinReach_45 : decode cX4_cellsWithinReach 45 = .ok (.iconst 1, 1) := by decide +kernel
theorem dX4_cellsWithinReach_46 : decode cX4_cellsWithinReach 46 = .ok (.iadd, 1) := by decide +kernel
theorem dX4_cellsWithinReach_47 : decode cX4_cellsWithinReach 47 = .ok (.istore_n 1, 1) := by decide +kernel
theorem dX4_cellsWithinReach_48 : decode cX4_cellsWithinReach 48 = .ok (.iinc 2 1, 3) := by decide +kernel
theorem dX4_cellsWithinReach_51 : decode cX4_cellsWithinReach 51 = .ok (.goto (-34), 3) := by decide +kernel
theorem dX4_cellsWithinReach_54 : decode cX4_cellsWithinReach 54 = .ok (.iload_n 1, 1) := by decide +kernel
theorem dX4_cellsWithinReach_55 : decode cX4_cellsWithinReach 55 = .ok (.ireturn, 1) := by decide +kernel
set_option maxRecDepth 20000 in
theorem ggX4_waysToLie_X4_look : GoodIn wsX4_waysToLie wsX4_look := goodIn_r _ [7, 8, 9, 10, 11, 12, 13, 14, 15, 55, 56, 57, 58, 59, 60, 61, 62, 63, 64, 65, 66, 67, 68, 69, 70, 71, 72, 73, 74, 75, 76, 77, 78, 79] (by decide +kernel) (by decide +kernel)
set_option maxRecDepth 20000 in
theorem gX4_waysToLie_X4_look : GoodIn wsX4_waysToLie (wsV RX4 103 RX4 yX4_look wsX4_look) := goodIn_app (goodIn_of _ (by decide +kernel)) ggX4_waysToLie_X4_look
set_option maxRecDepth 20000 in
theorem ggX4_waysToLie_X4_spread : GoodIn wsX4_waysToLie wsX4_spread := goodIn_r _ [19, 20, 2, 21, 22, 23, 24, 6, 25, 9, 11, 13, 26, 27, 28, 15, 29, 30, 31, 32, 33, 34, 35, 36, 37, 38, 39, 40, 41, 42, 43, 44, 45, 46, 47, 48, 49, 50, 51, 52, 53, 54, 55, 56, 57, 58, 59, 60, 61, 62, 63, 64, 65, 66, 67, 68, 69, 70, 71, 72, 73, 74, 75, 76, 77, 78, 79] (by decide +kernel) (by decide +kernel)
set_option maxRecDepth 20000 in
theorem gX4_waysToLie_X4_spread : GoodIn wsX4_waysToLie (wsV RX4 160 RX4 yX4_spread wsX4_spread) := goodIn_app (goodIn_of _ (by decide +kernel)) ggX4_waysToLie_X4_spread
theorem dX4_waysToLie_0 : decode cX4_waysToLie 0 = .ok (.aload_n 0, 1) := by decide +kernel
theorem dX4_waysToLie_1 : decode cX4_waysToLie 1 = .ok (.iconst 0, 1) := by decide +kernel
theorem dX4_waysToLie_2 : decode cX4_waysToLie 2 = .ok (.putfield 48, 3) := by decide +kernel
theorem dX4_waysToLie_5 : decode cX4_waysToLie 5 = .ok (.aload_n 0, 1) := by decide +kernel
theorem dX4_waysToLie_6 : decode cX4_waysToLie 6 = .ok (.invokevirtual 103, 3) := by decide +kernel
theorem dX4_waysToLie_9 : decode cX4_waysToLie 9 = .ok (.aload_n 0, 1) := by decide +kernel
theorem dX4_waysToLie_10 : decode cX4_waysToLie 10 = .ok (.invokevirtual 160, 3) := by decide +kernel
theorem dX4_waysToLie_13 : decode cX4_waysToLie 13 = .ok (.aload_n 0, 1) := by decide +kernel
theorem dX4_waysToLie_14 : decode cX4_waysToLie 14 = .ok (.getfield 147, 3) := by decide +kernel
theorem dX4_waysToLie_17 : decode cX4_waysToLie 17 = .ok (.ireturn, 1) := by decide +kernel
set_option maxRecDepth 20000 in
theorem ggX4_goOn_X4_beside : GoodIn wsX4_goOn wsX4_beside := goodIn_r _ [13, 2, 14, 15, 16, 17, 12, 18, 3, 19, 20, 21, 22, 23, 24, 25, 26, 27, 28, 29, 30, 31, 32, 33, 34, 35, 36, 37, 38, 39, 40, 41, 42, 43, 44, 45, 46] (by decide +kernel) (by decide +kernel)
set_option maxRecDepth 20000 in
theorem gX4_goOn_X4_beside : GoodIn wsX4_goOn (wsV RX4 99 RX4 yX4_beside wsX4_beside) := goodIn_app (goodIn_of _ (by decide +kernel)) ggX4_goOn_X4_beside
theorem dX4_goOn_0 : decode cX4_goOn 0 = .ok (.iconst 0, 1) := by decide +kernel
theorem dX4_goOn_1 : decode cX4_goOn 1 = .ok (.istore_n 1, 1) := by decide +kernel
theorem dX4_goOn_2 : decode cX4_goOn 2 = .ok (.iload_n 1, 1) := by decide +kernel
theorem dX4_goOn_3 : decode cX4_goOn 3 = .ok (.bipush 49, 2) := by decide +kernel
theorem dX4_goOn_5 : decode cX4_goOn 5 = .ok (.if_icmp .ge 16, 3) := by decide +kernel
theorem dX4_goOn_8 : decode cX4_goOn 8 = .ok (.aload_n 0, 1) := by decide +kernel
theorem dX4_goOn_9 : decode cX4_goOn 9 = .ok (.getfield 41, 3) := by decide +kernel
theorem dX4_goOn_12 : decode cX4_goOn 12 = .ok (.iload_n 1, 1) := by decide +kernel
theorem dX4_goOn_13 : decode cX4_goOn 13 = .ok (.iconst 0, 1) := by decide +kernel
theorem dX4_goOn_14 : decode cX4_goOn 14 = .ok (.bastore, 1) := by decide +kernel
theorem dX4_goOn_15 : decode cX4_goOn 15 = .ok (.iinc 1 1, 3) := by decide +kernel
theorem dX4_goOn_18 : decode cX4_goOn 18 = .ok (.goto (-16), 3) := by decide +kernel
theorem dX4_goOn_21 : decode cX4_goOn 21 = .ok (.iconst 0, 1) := by decide +kernel
theorem dX4_goOn_22 : decode cX4_goOn 22 = .ok (.istore_n 1, 1) := by decide +kernel
theorem dX4_goOn_23 : decode cX4_goOn 23 = .ok (.iload_n 1, 1) := by decide +kernel
theorem dX4_goOn_24 : decode cX4_goOn 24 = .ok (.aload_n 0, 1) := by decide +kernel
theorem dX4_goOn_25 : decode cX4_goOn 25 = .ok (.getfield 52, 3) := by decide +kernel
theorem dX4_goOn_28 : decode cX4_goOn 28 = .ok (.aload_n 0, 1) := by decide +kernel
theorem dX4_goOn_29 : decode cX4_goOn 29 = .ok (.getfield 59, 3) := by decide +kernel
theorem dX4_goOn_32 : decode cX4_goOn 32 = .ok (.imul, 1) := by decide +kernel
theorem dX4_goOn_33 : decode cX4_goOn 33 = .ok (.if_icmp .ge 50, 3) := by decide +kernel
theorem dX4_goOn_36 : decode cX4_goOn 36 = .ok (.iconst 0, 1) := by decide +kernel
theorem dX4_goOn_37 : decode cX4_goOn 37 = .ok (.istore_n 2, 1) := by decide +kernel
theorem dX4_goOn_38 : decode cX4_goOn 38 = .ok (.iload_n 2, 1) := by decide +kernel
theorem dX4_goOn_39 : decode cX4_goOn 39 = .ok (.iconst 4, 1) := by decide +kernel
theorem dX4_goOn_40 : decode cX4_goOn 40 = .ok (.if_icmp .ge 37, 3) := by decide +kernel
theorem dX4_goOn_43 : decode cX4_goOn 43 = .ok (.aload_n 0, 1) := by decide +kernel
theorem dX4_goOn_44 : decode cX4_goOn 44 = .ok (.getfield 38, 3) := by decide +kernel
theorem dX4_goOn_47 : decode cX4_goOn 47 = .ok (.iload_n 1, 1) := by decide +kernel
theorem dX4_goOn_48 : decode cX4_goOn 48 = .ok (.baload, 1) := by decide +kernel
theorem dX4_goOn_49 : decode cX4_goOn 49 = .ok (.ifCond .eq 28, 3) := by decide +kernel
theorem dX4_goOn_52 : decode cX4_goOn 52 = .ok (.aload_n 0, 1) := by decide +kernel
theorem dX4_goOn_53 : decode cX4_goOn 53 = .ok (.iload_n 1, 1) := by decide +kernel
theorem dX4_goOn_54 : decode cX4_goOn 54 = .ok (.iload_n 2, 1) := by decide +kernel
theorem dX4_goOn_55 : decode cX4_goOn 55 = .ok (.invokevirtual 99, 3) := by decide +kernel
theorem dX4_goOn_58 : decode cX4_goOn 58 = .ok (.istore_n 3, 1) := by decide +kernel
theorem dX4_goOn_59 : decode cX4_goOn 59 = .ok (.iload_n 3, 1) := by decide +kernel
theorem dX4_goOn_60 : decode cX4_goOn 60 = .ok (.iconst (-1), 1) := by decide +kernel
theorem dX4_goOn_61 : decode cX4_goOn 61 = .ok (.if_icmp .eq 10, 3) := by decide +kernel
theorem dX4_goOn_64 : decode cX4_goOn 64 = .ok (.aload_n 0, 1) := by decide +kernel
theorem dX4_goOn_65 : decode cX4_goOn 65 = .ok (.getfield 41, 3) := by decide +kernel
theorem dX4_goOn_68 : decode cX4_goOn 68 = .ok (.iload_n 3, 1) := by decide +kernel
theorem dX4_goOn_69 : decode cX4_goOn 69 = .ok (.iconst 1, 1) := by decide +kernel
theorem dX4_goOn_70 : decode cX4_goOn 70 = .ok (.bastore, 1) := by decide +kernel
theorem dX4_goOn_71 : decode cX4_goOn 71 = .ok (.iinc 2 1, 3) := by decide +kernel
theorem dX4_goOn_74 : decode cX4_goOn 74 = .ok (.goto (-36), 3) := by decide +kernel
theorem dX4_goOn_77 : decode cX4_goOn 77 = .ok (.iinc 1 1, 3) := by decide +kernel
theorem dX4_goOn_80 : decode cX4_goOn 80 = .ok (.goto (-57), 3) := by decide +kernel
theorem dX4_goOn_83 : decode cX4_goOn 83 = .ok (.aload_n 0, 1) := by decide +kernel
theorem dX4_goOn_84 : decode cX4_goOn 84 = .ok (.getfield 41, 3) := by decide +kernel
theorem dX4_goOn_87 : decode cX4_goOn 87 = .ok (.iconst 0, 1) := by decide +kernel
theorem dX4_goOn_88 : decode cX4_goOn 88 = .ok (.aload_n 0, 1) := by decide +kernel
theorem dX4_goOn_89 : decode cX4_goOn 89 = .ok (.getfield 38, 3) := by decide +kernel
theorem dX4_goOn_92 : decode cX4_goOn 92 = .ok (.iconst 0, 1) := by decide +kernel
theorem dX4_goOn_93 : decode cX4_goOn 93 = .ok (.bipush 49, 2) := by decide +kernel
theorem dX4_goOn_95 : decode cX4_goOn 95 = .ok (.invokestatic 175, 3) := by decide +kernel
theorem dX4_goOn_98 : decode cX4_goOn 98 = .ok (.return_, 1) := by decide +kernel
set_option maxRecDepth 20000 in
theorem ggX4_behind_X4_goOn : GoodIn wsX4_behind wsX4_goOn := goodIn_r _ [7, 8, 9, 10, 1, 11, 12, 13, 14, 15, 16, 17, 6, 18, 19, 20, 21, 22, 23, 24, 25, 26, 27, 28, 29, 30, 31, 32, 33, 34, 35, 36, 37, 38, 39, 40, 41, 42, 43, 44, 45, 46, 47, 48, 49, 50, 51] (by decide +kernel) (by decide +kernel)
set_option maxRecDepth 20000 in
theorem gX4_behind_X4_goOn : GoodIn wsX4_behind (wsV RX4 181 RX4 yX4_goOn wsX4_goOn) := goodIn_app (goodIn_of _ (by decide +kernel)) ggX4_behind_X4_goOn
theorem dX4_behind_0 : decode cX4_behind 0 = .ok (.iconst 0, 1) := by decide +kernel
theorem dX4_behind_1 : decode cX4_behind 1 = .ok (.istore_n 2, 1) := by decide +kernel
theorem dX4_behind_2 : decode cX4_behind 2 = .ok (.iload_n 2, 1) := by decide +kernel
theorem dX4_behind_3 : decode cX4_behind 3 = .ok (.bipush 49, 2) := by decide +kernel
theorem dX4_behind_5 : decode cX4_behind 5 = .ok (.if_icmp .ge 28, 3) := by decide +kernel
theorem dX4_behind_8 : decode cX4_behind 8 = .ok (.aload_n 0, 1) := by decide +kernel
theorem dX4_behind_9 : decode cX4_behind 9 = .ok (.getfield 38, 3) := by decide +kernel
theorem dX4_behind_12 : decode cX4_behind 12 = .ok (.iload_n 2, 1) := by decide +kernel
theorem dX4_behind_13 : decode cX4_behind 13 = .ok (.iload_n 2, 1) := by decide +kernel
theorem dX4_behind_14 : decode cX4_behind 14 = .ok (.aload_n 0, 1) := by decide +kernel
theorem dX4_behind_15 : decode cX4_behind 15 = .ok (.getfield 77, 3) := by decide +kernel
theorem dX4_behind_18 : decode cX4_behind 18 = .ok (.if_icmp .ne 7, 3) := by decide +kernel
theorem dX4_behind_21 : decode cX4_behind 21 = .ok (.iconst 1, 1) := by decide +kernel
theorem dX4_behind_22 : decode cX4_behind 22 = .ok (.goto 4, 3) := by decide +kernel
theorem dX4_behind_25 : decode cX4_behind 25 = .ok (.iconst 0, 1) := by decide +kernel
theorem dX4_behind_26 : decode cX4_behind 26 = .ok (.bastore, 1) := by decide +kernel
theorem dX4_behind_27 : decode cX4_behind 27 = .ok (.iinc 2 1, 3) := by decide +kernel
theorem dX4_behind_30 : decode cX4_behind 30 = .ok (.goto (-28), 3) := by decide +kernel
theorem dX4_behind_33 : decode cX4_behind 33 = .ok (.iconst 0, 1) := by decide +kernel
theorem dX4_behind_34 : decode cX4_behind 34 = .ok (.istore_n 2, 1) := by decide +kernel
theorem dX4_behind_35 : decode cX4_behind 35 = .ok (.iload_n 2, 1) := by decide +kernel
theorem dX4_behind_36 : decode cX4_behind 36 = .ok (.iload_n 1, 1) := by decide +kernel
theorem dX4_behind_37 : decode cX4_behind 37 = .ok (.if_icmp .ge 13, 3) := by decide +kernel
theorem dX4_behind_40 : decode cX4_behind 40 = .ok (.aload_n 0, 1) := by decide +kernel
theorem dX4_behind_41 : decode cX4_behind 41 = .ok (.invokevirtual 181, 3) := by decide +kernel
theorem dX4_behind_44 : decode cX4_behind 44 = .ok (.iinc 2 1, 3) := by decide +kernel
theorem dX4_behind_47 : decode cX4_behind 47 = .ok (.goto (-12), 3) := by decide +kernel
theorem dX4_behind_50 : decode cX4_behind 50 = .ok (.iconst 0, 1) := by decide +kernel
theorem dX4_behind_51 : decode cX4_behind 51 = .ok (.istore_n 2, 1) := by decide +kernel
theorem dX4_behind_52 : decode cX4_behind 52 = .ok (.aload_n 0, 1) := by decide +kernel
theorem dX4_behind_53 : decode cX4_behind 53 = .ok (.getfield 38, 3) := by decide +kernel
theorem dX4_behind_56 : decode cX4_behind 56 = .ok (.astore_n 3, 1) := by decide +kernel
theorem dX4_behind_57 : decode cX4_behind 57 = .ok (.aload_n 3, 1) := by decide +kernel
theorem dX4_behind_58 : decode cX4_behind 58 = .ok (.arraylength, 1) := by decide +kernel
theorem dX4_behind_59 : decode cX4_behind 59 = .ok (.istore 4, 2) := by decide +kernel
theorem dX4_behind_61 : decode cX4_behind 61 = .ok (.iconst 0, 1) := by decide +kernel
theorem dX4_behind_62 : decode cX4_behind 62 = .ok (.istore 5, 2) := by decide +kernel
theorem dX4_behind_64 : decode cX4_behind 64 = .ok (.iload 5, 2) := by decide +kernel
theorem dX4_behind_66 : decode cX4_behind 66 = .ok (.iload 4, 2) := by decide +kernel
theorem dX4_behind_68 : decode cX4_behind 68 = .ok (.if_icmp .ge 28, 3) := by decide +kernel
theorem dX4_behind_71 : decode cX4_behind 71 = .ok (.aload_n 3, 1) := by decide +kernel
theorem dX4_behind_72 : decode cX4_behind 72 = .ok (.iload 5, 2) := by decide +kernel
theorem dX4_behind_74 : decode cX4_behind 74 = .ok (.baload, 1) := by decide +kernel
theorem dX4_behind_75 : decode cX4_behind 75 = .ok (.istore 6, 2) := by decide +kernel
theorem dX4_behind_77 : decode cX4_behind 77 = .ok (.iload_n 2, 1) := by decide +kernel
theorem dX4_behind_78 : decode cX4_behind 78 = .ok (.iload 6, 2) := by decide +kernel
theorem dX4_behind_80 : decode cX4_behind 80 = .ok (.ifCond .eq 7, 3) := by decide +kernel
theorem dX4_behind_83 : decode cX4_behind 83 = .ok (.iconst 1, 1) := by decide +kernel
theorem dX4_behind_84 : decode cX4_behind 84 = .ok (.goto 4, 3) := by decide +kernel
theorem dX4_behind_87 : decode cX4_behind 87 = .ok (.iconst 0, 1) := by decide +kernel
theorem dX4_behind_88 : decode cX4_behind 88 = .ok (.iadd, 1) := by decide +kernel
theorem dX4_behind_89 : decode cX4_behind 89 = .ok (.istore_n 2, 1) := by decide +kernel
theorem dX4_behind_90 : decode cX4_behind 90 = .ok (.iinc 5 1, 3) := by decide +kernel
theorem dX4_behind_93 : decode cX4_behind 93 = .ok (.goto (-29), 3) := by decide +kernel
theorem dX4_behind_96 : decode cX4_behind 96 = .ok (.iload_n 2, 1) := by decide +kernel
theorem dX4_behind_97 : decode cX4_behind 97 = .ok (.ireturn, 1) := by decide +kernel
set_option maxRecDepth 20000 in
theorem ggX4_cellsBehind_X4_isIn : GoodIn wsX4_cellsBehind wsX4_isIn := goodIn_r _ [5] (by decide +kernel) (by decide +kernel)
set_option maxRecDepth 20000 in
theorem gX4_cellsBehind_X4_isIn : GoodIn wsX4_cellsBehind (va_wsS RX4 55 yX4_isIn wsX4_isIn) := goodIn_app (goodIn_of _ (by decide +kernel)) ggX4_cellsBehind_X4_isIn
set_option maxRecDepth 20000 in
theorem ggX4_cellsBehind_X4_behind : GoodIn wsX4_cellsBehind wsX4_behind := goodIn_r _ [9, 10, 11, 12, 13, 14, 4, 15, 16, 17, 18, 19, 20, 21, 22, 23, 24, 25, 26, 27, 28, 29, 30, 31, 2, 3, 5, 36, 37, 38, 39, 40, 41, 42, 43, 44, 45, 46, 47, 48, 49, 50, 51, 52, 53, 54, 55, 56, 57, 58, 59, 60] (by decide +kernel) (by decide +kernel)
set_option maxRecDepth 20000 in
theorem gX4_cellsBehind_X4_behind : GoodIn wsX4_cellsBehind (wsV RX4 184 RX4 yX4_behind wsX4_behind) := goodIn_app (goodIn_of _ (by decide +kernel)) ggX4_cellsBehind_X4_behind
set_option maxRecDepth 20000 in
theorem ggX4_cellsBehind_X4_no : GoodIn wsX4_cellsBehind wsX4_no := goodIn_r _ [35, 1, 36, 37, 38, 39, 40, 41, 42, 43, 44, 45, 46, 47, 48, 49, 50, 51, 52, 53, 54, 55, 56, 57, 58, 59, 60] (by decide +kernel) (by decide +kernel)
set_option maxRecDepth 20000 in
theorem gX4_cellsBehind_X4_no : GoodIn wsX4_cellsBehind (wsV RX4 109 RX4 yX4_no wsX4_no) := goodIn_app (goodIn_of _ (by decide +kernel)) ggX4_cellsBehind_X4_no
theorem dX4_cellsBehind_0 : decode cX4_cellsBehind 0 = .ok (.aload_n 0, 1) := by decide +kernel
theorem dX4_cellsBehind_1 : decode cX4_cellsBehind 1 = .ok (.iconst 0, 1) := by decide +kernel
theorem dX4_cellsBehind_2 : decode cX4_cellsBehind 2 = .ok (.putfield 48, 3) := by decide +kernel
theorem dX4_cellsBehind_5 : decode cX4_cellsBehind 5 = .ok (.iload_n 1, 1) := by decide +kernel
theorem dX4_cellsBehind_6 : decode cX4_cellsBehind 6 = .ok (.iconst 0, 1) := by decide +kernel
theorem dX4_cellsBehind_7 : decode cX4_cellsBehind 7 = .ok (.bipush 20, 2) := by decide +kernel
theorem dX4_cellsBehind_9 : decode cX4_cellsBehind 9 = .ok (.invokestatic 55, 3) := by decide +kernel
theorem dX4_cellsBehind_12 : decode cX4_cellsBehind 12 = .ok (.ifCond .eq 11, 3) := by decide +kernel
theorem dX4_cellsBehind_15 : decode cX4_cellsBehind 15 = .ok (.aload_n 0, 1) := by decide +kernel
theorem dX4_cellsBehind_16 : decode cX4_cellsBehind 16 = .ok (.iload_n 1, 1) := by decide +kernel
theorem dX4_cellsBehind_17 : decode cX4_cellsBehind 17 = .ok (.invokevirtual 184, 3) := by decide +kernel
theorem dX4_cellsBehind_20 : decode cX4_cellsBehind 20 = .ok (.goto 8, 3) := by decide +kernel
theorem dX4_cellsBehind_23 : decode cX4_cellsBehind 23 = .ok (.aload_n 0, 1) := by decide +kernel
theorem dX4_cellsBehind_24 : decode cX4_cellsBehind 24 = .ok (.iconst 1, 1) := by decide +kernel
theorem dX4_cellsBehind_25 : decode cX4_cellsBehind 25 = .ok (.invokevirtual 109, 3) := by decide +kernel
theorem dX4_cellsBehind_28 : decode cX4_cellsBehind 28 = .ok (.ireturn, 1) := by decide +kernel
set_option maxRecDepth 20000 in
theorem ggX4_best_X4_lookFirst : GoodIn wsX4_best wsX4_lookFirst := goodIn_r _ [9, 10, 11, 12, 13, 55, 56, 57, 58, 59, 60, 61, 62, 63, 64, 65, 66, 67, 68, 69, 70, 71, 72, 73, 74, 75, 76, 77, 78, 79] (by decide +kernel) (by decide +kernel)
set_option maxRecDepth 20000 in
theorem gX4_best_X4_lookFirst : GoodIn wsX4_best (wsV RX4 187 RX4 yX4_lookFirst wsX4_lookFirst) := goodIn_app (goodIn_of _ (by decide +kernel)) ggX4_best_X4_lookFirst
set_option maxRecDepth 20000 in
theorem ggX4_best_X4_spread : GoodIn wsX4_best wsX4_spread := goodIn_r _ [17, 18, 19, 20, 21, 22, 23, 8, 24, 10, 11, 12, 25, 26, 27, 13, 28, 29, 30, 31, 1, 3, 32, 33, 34, 35, 2, 36, 37, 38, 39, 40, 41, 42, 43, 44, 45, 46, 47, 48, 49, 50, 55, 56, 57, 58, 59, 60, 61, 62, 63, 64, 65, 66, 67, 68, 69, 70, 71, 72, 73, 74, 75, 76, 77, 78, 79] (by decide +kernel) (by decide +kernel)
set_option maxRecDepth 20000 in
theorem gX4_best_X4_spread : GoodIn wsX4_best (wsV RX4 160 RX4 yX4_spread wsX4_spread) := goodIn_app (goodIn_of _ (by decide +kernel)) ggX4_best_X4_spread
set_option maxRecDepth 20000 in
theorem ggX4_best_X4_fewestTo : GoodIn wsX4_best wsX4_fewestTo := goodIn_r _ [54, 19, 20, 25, 47, 48, 49, 8, 50, 18, 26, 55, 56, 57, 58, 59, 60, 61, 62, 63, 64, 65, 66, 67, 68, 69, 70, 71, 72, 73, 74, 75, 76, 77, 78, 79] (by decide +kernel) (by decide +kernel)
set_option maxRecDepth 20000 in
theorem gX4_best_X4_fewestTo : GoodIn wsX4_best (wsV RX4 163 RX4 yX4_fewestTo wsX4_fewestTo) := goodIn_app (goodIn_of _ (by decide +kernel)) ggX4_best_X4_fewestTo
theorem dX4_best_0 : decode cX4_best 0 = .ok (.iconst (-1), 1) := by decide +kernel
theorem dX4_best_1 : decode cX4_best 1 = .ok (.istore_n 2, 1) := by decide +kernel
theorem dX4_best_2 : decode cX4_best 2 = .ok (.iconst (-1), 1) := by decide +kernel
theorem dX4_best_3 : decode cX4_best 3 = .ok (.istore_n 3, 1) := by decide +kernel
theorem dX4_best_4 : decode cX4_best 4 = .ok (.iconst 0, 1) := by decide +kernel
theorem dX4_best_5 : decode cX4_best 5 = .ok (.istore 4, 2) := by decide +kernel
theorem dX4_best_7 : decode cX4_best 7 = .ok (.iload 4, 2) := by decide +kernel
theorem dX4_best_9 : decode cX4_best 9 = .ok (.aload_n 0, 1) := by decide +kernel
theorem dX4_best_10 : decode cX4_best 10 = .ok (.getfield 52, 3) := by decide +kernel
theorem dX4_best_13 : decode cX4_best 13 = .ok (.aload_n 0, 1) := by decide +kernel
theorem dX4_best_14 : decode cX4_best 14 = .ok (.getfield 59, 3) := by decide +kernel
theorem dX4_best_17 : decode cX4_best 17 = .ok (.imul, 1) := by decide +kernel
theorem dX4_best_18 : decode cX4_best 18 = .ok (.if_icmp .ge 69, 3) := by decide +kernel
theorem dX4_best_21 : decode cX4_best 21 = .ok (.aload_n 0, 1) := by decide +kernel
theorem dX4_best_22 : decode cX4_best 22 = .ok (.getfield 9, 3) := by decide +kernel
theorem dX4_best_25 : decode cX4_best 25 = .ok (.iload 4, 2) := by decide +kernel
theorem dX4_best_27 : decode cX4_best 27 = .ok (.baload, 1) := by decide +kernel
theorem dX4_best_28 : decode cX4_best 28 = .ok (.ifCond .eq 6, 3) := by decide +kernel
theorem dX4_best_31 : decode cX4_best 31 = .ok (.goto 50, 3) := by decide +kernel
theorem dX4_best_34 : decode cX4_best 34 = .ok (.aload_n 0, 1) := by decide +kernel
theorem dX4_best_35 : decode cX4_best 35 = .ok (.iload 4, 2) := by decide +kernel
theorem dX4_best_37 : decode cX4_best 37 = .ok (.invokevirtual 187, 3) := by decide +kernel
theorem dX4_best_40 : decode cX4_best 40 = .ok (.aload_n 0, 1) := by decide +kernel
theorem dX4_best_41 : decode cX4_best 41 = .ok (.invokevirtual 160, 3) := by decide +kernel
theorem dX4_best_44 : decode cX4_best 44 = .ok (.aload_n 0, 1) := by decide +kernel
theorem dX4_best_45 : decode cX4_best 45 = .ok (.aload_n 0, 1) := by decide +kernel
theorem dX4_best_46 : decode cX4_best 46 = .ok (.getfield 77, 3) := by decide +kernel
theorem dX4_best_49 : decode cX4_best 49 = .ok (.iload_n 1, 1) := by decide +kernel
theorem dX4_best_50 : decode cX4_best 50 = .ok (.invokevirtual 163, 3) := by decide +kernel
theorem dX4_best_53 : decode cX4_best 53 = .ok (.istore 5, 2) := by decide +kernel
theorem dX4_best_55 : decode cX4_best 55 = .ok (.iload 5, 2) := by decide +kernel
theorem dX4_best_57 : decode cX4_best 57 = .ok (.iconst (-1), 1) := by decide +kernel
theorem dX4_best_58 : decode cX4_best 58 = .ok (.if_icmp .eq 23, 3) := by decide +kernel
theorem dX4_best_61 : decode cX4_best 61 = .ok (.iload_n 3, 1) := by decide +kernel
theorem dX4_best_62 : decode cX4_best 62 = .ok (.iconst (-1), 1) := by decide +kernel
theorem dX4_best_63 : decode cX4_best 63 = .ok (.if_icmp .eq 12, 3) := by decide +kernel
theorem dX4_best_66 : decode cX4_best 66 = .ok (.iload 5, 2) := by decide +kernel
theorem dX4_best_68 : decode cX4_best 68 = .ok (.iload_n 3, 1) := by decide +kernel
theorem dX4_best_69 : decode cX4_best 69 = .ok (.if_icmp .lt 6, 3) := by decide +kernel
theorem dX4_best_72 : decode cX4_best 72 = .ok (.goto 9, 3) := by decide +kernel
theorem dX4_best_75 : decode cX4_best 75 = .ok (.iload 4, 2) := by decide +kernel
theorem dX4_best_77 : decode cX4_best 77 = .ok (.istore_n 2, 1) := by decide +kernel
theorem dX4_best_78 : decode cX4_best 78 = .ok (.iload 5, 2) := by decide +kernel
theorem dX4_best_80 : decode cX4_best 80 = .ok (.istore_n 3, 1) := by decide +kernel
theorem dX4_best_81 : decode cX4_best 81 = .ok (.iinc 4 1, 3) := by decide +kernel
theorem dX4_best_84 : decode cX4_best 84 = .ok (.goto (-77), 3) := by decide +kernel
theorem dX4_best_87 : decode cX4_best 87 = .ok (.iload_n 2, 1) := by decide +kernel
theorem dX4_best_88 : decode cX4_best 88 = .ok (.ireturn, 1) := by decide +kernel
set_option maxRecDepth 20000 in
theorem ggX4_bestPut_X4_isFace : GoodIn wsX4_bestPut wsX4_isFace := goodIn_r _ [5, 6, 7, 4, 8] (by decide +kernel) (by decide +kernel)
set_option maxRecDepth 20000 in
theorem gX4_bestPut_X4_isFace : GoodIn wsX4_bestPut (va_wsS RX4 117 yX4_isFace wsX4_isFace) := goodIn_app (goodIn_of _ (by decide +kernel)) ggX4_bestPut_X4_isFace
set_option maxRecDepth 20000 in
theorem ggX4_bestPut_X4_best : GoodIn wsX4_bestPut wsX4_best := goodIn_r _ [12, 13, 14, 15, 16, 17, 18, 19, 4, 20, 21, 22, 23, 24, 25, 26, 27, 28, 29, 30, 31, 32, 33, 34, 35, 36, 37, 38, 39, 40, 41, 42, 43, 44, 45, 46, 6, 7, 8, 47, 48, 49, 50, 51, 52, 53, 54, 55, 56, 57, 58, 59, 60, 61, 62, 67, 68, 69, 70, 71, 72, 73, 74, 75, 76, 77, 78, 79, 80, 81, 82, 83, 84, 85, 86, 87, 88, 89, 90, 91] (by decide +kernel) (by decide +kernel)
set_option maxRecDepth 20000 in
theorem gX4_bestPut_X4_best : GoodIn wsX4_bestPut (wsV RX4 190 RX4 yX4_best wsX4_best) := goodIn_app (goodIn_of _ (by decide +kernel)) ggX4_bestPut_X4_best
set_option maxRecDepth 20000 in
theorem ggX4_bestPut_X4_no : GoodIn wsX4_bestPut wsX4_no := goodIn_r _ [66, 1, 67, 68, 69, 70, 71, 72, 73, 74, 75, 76, 77, 78, 79, 80, 81, 82, 83, 84, 85, 86, 87, 88, 89, 90, 91] (by decide +kernel) (by decide +kernel)
set_option maxRecDepth 20000 in
theorem gX4_bestPut_X4_no : GoodIn wsX4_bestPut (wsV RX4 109 RX4 yX4_no wsX4_no) := goodIn_app (goodIn_of _ (by decide +kernel)) ggX4_bestPut_X4_no
theorem dX4_bestPut_0 : decode cX4_bestPut 0 = .ok (.aload_n 0, 1) := by decide +kernel
theorem dX4_bestPut_1 : decode cX4_bestPut 1 = .ok (.iconst 0, 1) := by decide +kernel
theorem dX4_bestPut_2 : decode cX4_bestPut 2 = .ok (.putfield 48, 3) := by decide +kernel
theorem dX4_bestPut_5 : decode cX4_bestPut 5 = .ok (.iload_n 1, 1) := by decide +kernel
theorem dX4_bestPut_6 : decode cX4_bestPut 6 = .ok (.invokestatic 117, 3) := by decide +kernel
theorem dX4_bestPut_9 : decode cX4_bestPut 9 = .ok (.ifCond .eq 11, 3) := by decide +kernel
theorem dX4_bestPut_12 : decode cX4_bestPut 12 = .ok (.aload_n 0, 1) := by decide +kernel
theorem dX4_bestPut_13 : decode cX4_bestPut 13 = .ok (.iload_n 1, 1) := by decide +kernel
theorem dX4_bestPut_14 : decode cX4_bestPut 14 = .ok (.invokevirtual 190, 3) := by decide +kernel
theorem dX4_bestPut_17 : decode cX4_bestPut 17 = .ok (.goto 8, 3) := by decide +kernel
theorem dX4_bestPut_20 : decode cX4_bestPut 20 = .ok (.aload_n 0, 1) := by decide +kernel
theorem dX4_bestPut_21 : decode cX4_bestPut 21 = .ok (.iconst 1, 1) := by decide +kernel
theorem dX4_bestPut_22 : decode cX4_bestPut 22 = .ok (.invokevirtual 109, 3) := by decide +kernel
theorem dX4_bestPut_25 : decode cX4_bestPut 25 = .ok (.ireturn, 1) := by decide +kernel
theorem dX4_meanPaint_0 : decode cX4_meanPaint 0 = .ok (.aload_n 0, 1) := by decide +kernel
theorem dX4_meanPaint_1 : decode cX4_meanPaint 1 = .ok (.iconst 0, 1) := by decide +kernel
theorem dX4_meanPaint_2 : decode cX4_meanPaint 2 = .ok (.putfield 48, 3) := by decide +kernel
theorem dX4_meanPaint_5 : decode cX4_meanPaint 5 = .ok (.iconst 0, 1) := by decide +kernel
theorem dX4_meanPaint_6 : decode cX4_meanPaint 6 = .ok (.istore_n 1, 1) := by decide +kernel
theorem dX4_meanPaint_7 : decode cX4_meanPaint 7 = .ok (.iconst 1, 1) := by decide +kernel
theorem dX4_meanPaint_8 : decode cX4_meanPaint 8 = .ok (.istore_n 2, 1) := by decide +kernel
theorem dX4_meanPaint_9 : decode cX4_meanPaint 9 = .ok (.iload_n 2, 1) := by decide +kernel
theorem dX4_meanPaint_10 : decode cX4_meanPaint 10 = .ok (.bipush 6, 2) := by decide +kernel
theorem dX4_meanPaint_12 : decode cX4_meanPaint 12 = .ok (.if_icmp .gt 18, 3) := by decide +kernel
theorem dX4_meanPaint_15 : decode cX4_meanPaint 15 = .ok (.iload_n 1, 1) := by decide +kernel
theorem dX4_meanPaint_16 : decode cX4_meanPaint 16 = .ok (.aload_n 0, 1) := by decide +kernel
theorem dX4_meanPaint_17 : decode cX4_meanPaint 17 = .ok (.getfield 20, 3) := by decide +kernel
theorem dX4_meanPaint_20 : decode cX4_meanPaint 20 = .ok (.iload_n 2, 1) := by decide +kernel
theorem dX4_meanPaint_21 : decode cX4_meanPaint 21 = .ok (.iaload, 1) := by decide +kernel
theorem dX4_meanPaint_22 : decode cX4_meanPaint 22 = .ok (.iadd, 1) := by decide +kernel
theorem dX4_meanPaint_23 : decode cX4_meanPaint 23 = .ok (.istore_n 1, 1) := by decide +kernel
theorem dX4_meanPaint_24 : decode cX4_meanPaint 24 = .ok (.iinc 2 1, 3) := by decide +kernel
theorem dX4_meanPaint_27 : decode cX4_meanPaint 27 = .ok (.goto (-18), 3) := by decide +kernel
theorem dX4_meanPaint_30 : decode cX4_meanPaint 30 = .ok (.iload_n 1, 1) := by decide +kernel
theorem dX4_meanPaint_31 : decode cX4_meanPaint 31 = .ok (.i2d, 1) := by decide +kernel
theorem dX4_meanPaint_32 : decode cX4_meanPaint 32 = .ok (.ldc2_w 193, 3) := by decide +kernel
theorem dX4_meanPaint_35 : decode cX4_meanPaint 35 = .ok (.ddiv, 1) := by decide +kernel
theorem dX4_meanPaint_36 : decode cX4_meanPaint 36 = .ok (.dreturn, 1) := by decide +kernel
set_option maxRecDepth 20000 in
theorem ggX4_digest_X4_wallsThere : GoodIn wsX4_digest wsX4_wallsThere := goodIn_r _ [19, 3, 4, 13, 79, 80, 81, 82, 83, 84, 85, 86, 87, 88, 89, 90, 91, 92, 93, 94, 95, 96, 97, 98, 99, 100, 101, 102, 103] (by decide +kernel) (by decide +kernel)
set_option maxRecDepth 20000 in
theorem gX4_digest_X4_wallsThere : GoodIn wsX4_digest (wsV RX4 143 RX4 yX4_wallsThere wsX4_wallsThere) := goodIn_app (goodIn_of _ (by decide +kernel)) ggX4_digest_X4_wallsThere
set_option maxRecDepth 20000 in
theorem ggX4_digest_X4_side : GoodIn wsX4_digest wsX4_side := goodIn_r _ [23, 24, 25, 79, 80, 81, 82, 83, 84, 85, 86, 87, 88, 89, 90, 91, 92, 93, 94, 95, 96, 97, 98, 99, 100, 101, 102, 103] (by decide +kernel) (by decide +kernel)
set_option maxRecDepth 20000 in
theorem gX4_digest_X4_side : GoodIn wsX4_digest (wsV RX4 140 RX4 yX4_side wsX4_side) := goodIn_app (goodIn_of _ (by decide +kernel)) ggX4_digest_X4_side
set_option maxRecDepth 20000 in
theorem ggX4_digest_X4_look : GoodIn wsX4_digest wsX4_look := goodIn_r _ [29, 7, 30, 8, 31, 24, 32, 25, 33, 79, 80, 81, 82, 83, 84, 85, 86, 87, 88, 89, 90, 91, 92, 93, 94, 95, 96, 97, 98, 99, 100, 101, 102, 103] (by decide +kernel) (by decide +kernel)
set_option maxRecDepth 20000 in
theorem gX4_digest_X4_look : GoodIn wsX4_digest (wsV RX4 103 RX4 yX4_look wsX4_look) := goodIn_app (goodIn_of _ (by decide +kernel)) ggX4_digest_X4_look
set_option maxRecDepth 20000 in
theorem ggX4_digest_X4_spread : GoodIn wsX4_digest wsX4_spread := goodIn_r _ [37, 38, 39, 40, 41, 42, 43, 18, 44, 30, 31, 32, 45, 46, 47, 33, 48, 49, 50, 51, 3, 13, 52, 53, 54, 55, 4, 56, 57, 58, 59, 60, 61, 62, 63, 64, 65, 66, 67, 68, 69, 70, 79, 80, 81, 82, 83, 84, 85, 86, 87, 88, 89, 90, 91, 92, 93, 94, 95, 96, 97, 98, 99, 100, 101, 102, 103] (by decide +kernel) (by decide +kernel)
set_option maxRecDepth 20000 in
theorem gX4_digest_X4_spread : GoodIn wsX4_digest (wsV RX4 160 RX4 yX4_spread wsX4_spread) := goodIn_app (goodIn_of _ (by decide +kernel)) ggX4_digest_X4_spread
set_option maxRecDepth 20000 in
theorem ggX4_digest_X4_fewestTo : GoodIn wsX4_digest wsX4_fewestTo := goodIn_r _ [74, 39, 40, 45, 67, 68, 69, 18, 70, 38, 46, 79, 80, 81, 82, 83, 84, 85, 86, 87, 88, 89, 90, 91, 92, 93, 94, 95, 96, 97, 98, 99, 100, 101, 102, 103] (by decide +kernel) (by decide +kernel)
set_option maxRecDepth 20000 in
theorem gX4_digest_X4_fewestTo : GoodIn wsX4_digest (wsV RX4 163 RX4 yX4_fewestTo wsX4_fewestTo) := goodIn_app (goodIn_of _ (by decide +kernel)) ggX4_digest_X4_fewestTo
set_option maxRecDepth 20000 in
theorem ggX4_digest_X4_topsOn : GoodIn wsX4_digest wsX4_topsOn := goodIn_r _ [78, 71, 72, 73, 18, 74, 39, 40, 45, 67, 68, 69, 70, 38, 46, 79, 80, 81, 82, 83, 84, 85, 86, 87, 88, 89, 90, 91, 92, 93, 94, 95, 96, 97, 98, 99, 100, 101, 102, 103] (by decide +kernel) (by decide +kernel)
set_option maxRecDepth 20000 in
theorem gX4_digest_X4_topsOn : GoodIn wsX4_digest (wsV RX4 172 RX4 yX4_topsOn wsX4_topsOn) := goodIn_app (goodIn_of _ (by decide +kernel)) ggX4_digest_X4_topsOn
theorem dX4_digest_0 : decode cX4_digest 0 = .ok (.aload_n 0, 1) := by decide +kernel
theorem dX4_digest_1 : decode cX4_digest 1 = .ok (.iconst 0, 1) := by decide +kernel
theorem dX4_digest_2 : decode cX4_digest 2 = .ok (.putfield 48, 3) := by decide +kernel
theorem dX4_digest_5 : decode cX4_digest 5 = .ok (.bipush 13, 2) := by decide +kernel
theorem dX4_digest_7 : decode cX4_digest 7 = .ok (.newarray .int, 2) := by decide +kernel
theorem dX4_digest_9 : decode cX4_digest 9 = .ok (.dup, 1) := by decide +kernel
theorem dX4_digest_10 : decode cX4_digest 10 = .ok (.iconst 0, 1) := by decide +kernel
theorem dX4_digest_11 : decode cX4_digest 11 = .ok (.aload_n 0, 1) := by decide +kernel
theorem dX4_digest_12 : decode cX4_digest 12 = .ok (.getfield 52, 3) := by decide +kernel
theorem dX4_digest_15 : decode cX4_digest 15 = .ok (.iastore, 1) := by decide +kernel
theorem dX4_digest_16 : decode cX4_digest 16 = .ok (.dup, 1) := by decide +kernel
theorem dX4_digest_17 : decode cX4_digest 17 = .ok (.iconst 1, 1) := by decide +kernel
theorem dX4_digest_18 : decode cX4_digest 18 = .ok (.aload_n 0, 1) := by decide +kernel
theorem dX4_digest_19 : decode cX4_digest 19 = .ok (.getfield 59, 3) := by decide +kernel
theorem dX4_digest_22 : decode cX4_digest 22 = .ok (.iastore, 1) := by decide +kernel
theorem dX4_digest_23 : decode cX4_digest 23 = .ok (.dup, 1) := by decide +kernel
theorem dX4_digest_24 : decode cX4_digest 24 = .ok (.iconst 2, 1) := by decide +kernel
theorem dX4_digest_25 : decode cX4_digest 25 = .ok (.aload_n 0, 1) := by decide +kernel
theorem dX4_digest_26 : decode cX4_digest 26 = .ok (.invokevirtual 143, 3) := by decide +kernel
theorem dX4_digest_29 : decode cX4_digest 29 = .ok (.iastore, 1) := by decide +kernel
theorem dX4_digest_30 : decode cX4_digest 30 = .ok (.dup, 1) := by decide +kernel
theorem dX4_digest_31 : decode cX4_digest 31 = .ok (.iconst 3, 1) := by decide +kernel
theorem dX4_digest_32 : decode cX4_digest 32 = .ok (.aload_n 0, 1) := by decide +kernel
theorem dX4_digest_33 : decode cX4_digest 33 = .ok (.getfield 71, 3) := by decide +kernel
theorem dX4_digest_36 : decode cX4_digest 36 = .ok (.iastore, 1) := by decide +kernel
theorem dX4_digest_37 : decode cX4_digest 37 = .ok (.dup, 1) := by decide +kernel
theorem dX4_digest_38 : decode cX4_digest 38 = .ok (.iconst 4, 1) := by decide +kernel
theorem dX4_digest_39 : decode cX4_digest 39 = .ok (.aload_n 0, 1) := by decide +kernel
theorem dX4_digest_40 : decode cX4_digest 40 = .ok (.getfield 74, 3) := by decide +kernel
theorem dX4_digest_43 : decode cX4_digest 43 = .ok (.iastore, 1) := by decide +kernel
theorem dX4_digest_44 : decode cX4_digest 44 = .ok (.dup, 1) := by decide +kernel
theorem dX4_digest_45 : decode cX4_digest 45 = .ok (.iconst 5, 1) := by decide +kernel
theorem dX4_digest_46 : decode cX4_digest 46 = .ok (.aload_n 0, 1) := by decide +kernel
theorem dX4_digest_47 : decode cX4_digest 47 = .ok (.getfield 77, 3) := by decide +kernel
theorem dX4_digest_50 : decode cX4_digest 50 = .ok (.aload_n 0, 1) := by decide +kernel
theorem dX4_digest_51 : decode cX4_digest 51 = .ok (.getfield 52, 3) := by decide +kernel
theorem dX4_digest_54 : decode cX4_digest 54 = .ok (.irem, 1) := by decide +kernel
theorem dX4_digest_55 : decode cX4_digest 55 = .ok (.iastore, 1) := by decide +kernel
theorem dX4_digest_56 : decode cX4_digest 56 = .ok (.dup, 1) := by decide +kernel
theorem dX4_digest_57 : decode cX4_digest 57 = .ok (.bipush 6, 2) := by decide +kernel
theorem dX4_digest_59 : decode cX4_digest 59 = .ok (.aload_n 0, 1) := by decide +kernel
theorem dX4_digest_60 : decode cX4_digest 60 = .ok (.getfield 77, 3) := by decide +kernel
theorem dX4_digest_63 : decode cX4_digest 63 = .ok (.aload_n 0, 1) := by decide +kernel
theorem dX4_digest_64 : decode cX4_digest 64 = .ok (.getfield 52, 3) := by decide +kernel
theorem dX4_digest_67 : decode cX4_digest 67 = .ok (.idiv, 1) := by decide +kernel
theorem dX4_digest_68 : decode cX4_digest 68 = .ok (.iastore, 1) := by decide +kernel
theorem dX4_digest_69 : decode cX4_digest 69 = .ok (.dup, 1) := by decide +kernel
theorem dX4_digest_70 : decode cX4_digest 70 = .ok (.bipush 7, 2) := by decide +kernel
theorem dX4_digest_72 : decode cX4_digest 72 = .ok (.aload_n 0, 1) := by decide +kernel
theorem dX4_digest_73 : decode cX4_digest 73 = .ok (.getfield 62, 3) := by decide +kernel
theorem dX4_digest_76 : decode cX4_digest 76 = .ok (.iastore, 1) := by decide +kernel
theorem dX4_digest_77 : decode cX4_digest 77 = .ok (.dup, 1) := by decide +kernel
theorem dX4_digest_78 : decode cX4_digest 78 = .ok (.bipush 8, 2) := by decide +kernel
theorem dX4_digest_80 : decode cX4_digest 80 = .ok (.bipush 7, 2) := by decide +kernel
theorem dX4_digest_82 : decode cX4_digest 82 = .ok (.aload_n 0, 1) := by decide +kernel
theorem dX4_digest_83 : decode cX4_digest 83 = .ok (.getfield 62, 3) := by decide +kernel
theorem dX4_digest_86 : decode cX4_digest 86 = .ok (.isub, 1) := by decide +kernel
theorem dX4_digest_87 : decode cX4_digest 87 = .ok (.iastore, 1) := by decide +kernel
theorem dX4_digest_88 : decode cX4_digest 88 = .ok (.dup, 1) := by decide +kernel
theorem dX4_digest_89 : decode cX4_digest 89 = .ok (.bipush 9, 2) := by decide +kernel
theorem dX4_digest_91 : decode cX4_digest 91 = .ok (.aload_n 0, 1) := by decide +kernel
theorem dX4_digest_92 : decode cX4_digest 92 = .ok (.iconst 0, 1) := by decide +kernel
theorem dX4_digest_93 : decode cX4_digest 93 = .ok (.invokevirtual 140, 3) := by decide +kernel
theorem dX4_digest_96 : decode cX4_digest 96 = .ok (.iastore, 1) := by decide +kernel
theorem dX4_digest_97 : decode cX4_digest 97 = .ok (.dup, 1) := by decide +kernel
theorem dX4_digest_98 : decode cX4_digest 98 = .ok (.bipush 10, 2) := by decide +kernel
theorem dX4_digest_100 : decode cX4_digest 100 = .ok (.aload_n 0, 1) := by decide +kernel
theorem dX4_digest_101 : decode cX4_digest 101 = .ok (.iconst 1, 1) := by decide +kernel
theorem dX4_digest_102 : decode cX4_digest 102 = .ok (.invokevirtual 140, 3) := by decide +kernel
theorem dX4_digest_105 : decode cX4_digest 105 = .ok (.iastore, 1) := by decide +kernel
theorem dX4_digest_106 : decode cX4_digest 106 = .ok (.dup, 1) := by decide +kernel
theorem dX4_digest_107 : decode cX4_digest 107 = .ok (.bipush 11, 2) := by decide +kernel
theorem dX4_digest_109 : decode cX4_digest 109 = .ok (.aload_n 0, 1) := by decide +kernel
theorem dX4_digest_110 : decode cX4_digest 110 = .ok (.iconst 2, 1) := by decide +kernel
theorem dX4_digest_111 : decode cX4_digest 111 = .ok (.invokevirtual 140, 3) := by decide +kernel
theorem dX4_digest_114 : decode cX4_digest 114 = .ok (.iastore, 1) := by decide +kernel
theorem dX4_digest_115 : decode cX4_digest 115 = .ok (.dup, 1) := by decide +kernel
theorem dX4_digest_116 : decode cX4_digest 116 = .ok (.bipush 12, 2) := by decide +kernel
theorem dX4_digest_118 : decode cX4_digest 118 = .ok (.aload_n 0, 1) := by decide +kernel
theorem dX4_digest_119 : decode cX4_digest 119 = .ok (.iconst 3, 1) := by decide +kernel
theorem dX4_digest_120 : decode cX4_digest 120 = .ok (.invokevirtual 140, 3) := by decide +kernel
theorem dX4_digest_123 : decode cX4_digest 123 = .ok (.iastore, 1) := by decide +kernel
theorem dX4_digest_124 : decode cX4_digest 124 = .ok (.astore_n 1, 1) := by decide +kernel
theorem dX4_digest_125 : decode cX4_digest 125 = .ok (.ldc2_w 195, 3) := by decide +kernel
theorem dX4_digest_128 : decode cX4_digest 128 = .ok (.lstore_n 2, 1) := by decide +kernel
theorem dX4_digest_129 : decode cX4_digest 129 = .ok (.aload_n 1, 1) := by decide +kernel
theorem dX4_digest_130 : decode cX4_digest 130 = .ok (.astore 4, 2) := by decide +kernel
theorem dX4_digest_132 : decode cX4_digest 132 = .ok (.aload 4, 2) := by decide +kernel
theorem dX4_digest_134 : decode cX4_digest 134 = .ok (.arraylength, 1) := by decide +kernel
theorem dX4_digest_135 : decode cX4_digest 135 = .ok (.istore 5, 2) := by decide +kernel
theorem dX4_digest_137 : decode cX4_digest 137 = .ok (.iconst 0, 1) := by decide +kernel
theorem dX4_digest_138 : decode cX4_digest 138 = .ok (.istore 6, 2) := by decide +kernel
theorem dX4_digest_140 : decode cX4_digest 140 = .ok (.iload 6, 2) := by decide +kernel
theorem dX4_digest_142 : decode cX4_digest 142 = .ok (.iload 5, 2) := by decide +kernel
theorem dX4_digest_144 : decode cX4_digest 144 = .ok (.if_icmp .ge 26, 3) := by decide +kernel
theorem dX4_digest_147 : decode cX4_digest 147 = .ok (.aload 4, 2) := by decide +kernel
theorem dX4_digest_149 : decode cX4_digest 149 = .ok (.iload 6, 2) := by decide +kernel
theorem dX4_digest_151 : decode cX4_digest 151 = .ok (.iaload, 1) := by decide +kernel
theorem dX4_digest_152 : decode cX4_digest 152 = .ok (.istore 7, 2) := by decide +kernel
theorem dX4_digest_154 : decode cX4_digest 154 = .ok (.lload_n 2, 1) := by decide +kernel
theorem dX4_digest_155 : decode cX4_digest 155 = .ok (.ldc2_w 197, 3) := by decide +kernel
theorem dX4_digest_158 : decode cX4_digest 158 = .ok (.lmul, 1) := by decide +kernel
theorem dX4_digest_159 : decode cX4_digest 159 = .ok (.iload 7, 2) := by decide +kernel
theorem dX4_digest_161 : decode cX4_digest 161 = .ok (.i2l, 1) := by decide +kernel
theorem dX4_digest_162 : decode cX4_digest 162 = .ok (.ladd, 1) := by decide +kernel
theorem dX4_digest_163 : decode cX4_digest 163 = .ok (.lstore_n 2, 1) := by decide +kernel
theorem dX4_digest_164 : decode cX4_digest 164 = .ok (.iinc 6 1, 3) := by decide +kernel
theorem dX4_digest_167 : decode cX4_digest 167 = .ok (.goto (-27), 3) := by decide +kernel
theorem dX4_digest_170 : decode cX4_digest 170 = .ok (.iconst 1, 1) := by decide +kernel
theorem dX4_digest_171 : decode cX4_digest 171 = .ok (.istore 4, 2) := by decide +kernel
theorem dX4_digest_173 : decode cX4_digest 173 = .ok (.iload 4, 2) := by decide +kernel
theorem dX4_digest_175 : decode cX4_digest 175 = .ok (.bipush 6, 2) := by decide +kernel
theorem dX4_digest_177 : decode cX4_digest 177 = .ok (.if_icmp .gt 37, 3) := by decide +kernel
theorem dX4_digest_180 : decode cX4_digest 180 = .ok (.lload_n 2, 1) := by decide +kernel
theorem dX4_digest_181 : decode cX4_digest 181 = .ok (.ldc2_w 197, 3) := by decide +kernel
theorem dX4_digest_184 : decode cX4_digest 184 = .ok (.lmul, 1) := by decide +kernel
theorem dX4_digest_185 : decode cX4_digest 185 = .ok (.aload_n 0, 1) := by decide +kernel
theorem dX4_digest_186 : decode cX4_digest 186 = .ok (.getfield 17, 3) := by decide +kernel
theorem dX4_digest_189 : decode cX4_digest 189 = .ok (.iload 4, 2) := by decide +kernel
theorem dX4_digest_191 : decode cX4_digest 191 = .ok (.iaload, 1) := by decide +kernel
theorem dX4_digest_192 : decode cX4_digest 192 = .ok (.i2l, 1) := by decide +kernel
theorem dX4_digest_193 : decode cX4_digest 193 = .ok (.ladd, 1) := by decide +kernel
theorem dX4_digest_194 : decode cX4_digest 194 = .ok (.ldc2_w 197, 3) := by decide +kernel
theorem dX4_digest_197 : decode cX4_digest 197 = .ok (.lmul, 1) := by decide +kernel
theorem dX4_digest_198 : decode cX4_digest 198 = .ok (.aload_n 0, 1) := by decide +kernel
theorem dX4_digest_199 : decode cX4_digest 199 = .ok (.getfield 20, 3) := by decide +kernel
theorem dX4_digest_202 : decode cX4_digest 202 = .ok (.iload 4, 2) := by decide +kernel
theorem dX4_digest_204 : decode cX4_digest 204 = .ok (.iaload, 1) := by decide +kernel
theorem dX4_digest_205 : decode cX4_digest 205 = .ok (.i2l, 1) := by decide +kernel
theorem dX4_digest_206 : decode cX4_digest 206 = .ok (.ladd, 1) := by decide +kernel
theorem dX4_digest_207 : decode cX4_digest 207 = .ok (.lstore_n 2, 1) := by decide +kernel
theorem dX4_digest_208 : decode cX4_digest 208 = .ok (.iinc 4 1, 3) := by decide +kernel
theorem dX4_digest_211 : decode cX4_digest 211 = .ok (.goto (-38), 3) := by decide +kernel
theorem dX4_digest_214 : decode cX4_digest 214 = .ok (.aload_n 0, 1) := by decide +kernel
theorem dX4_digest_215 : decode cX4_digest 215 = .ok (.invokevirtual 103, 3) := by decide +kernel
theorem dX4_digest_218 : decode cX4_digest 218 = .ok (.aload_n 0, 1) := by decide +kernel
theorem dX4_digest_219 : decode cX4_digest 219 = .ok (.invokevirtual 160, 3) := by decide +kernel
theorem dX4_digest_222 : decode cX4_digest 222 = .ok (.iconst 0, 1) := by decide +kernel
theorem dX4_digest_223 : decode cX4_digest 223 = .ok (.istore 4, 2) := by decide +kernel
theorem dX4_digest_225 : decode cX4_digest 225 = .ok (.iload 4, 2) := by decide +kernel
theorem dX4_digest_227 : decode cX4_digest 227 = .ok (.aload_n 0, 1) := by decide +kernel
theorem dX4_digest_228 : decode cX4_digest 228 = .ok (.getfield 52, 3) := by decide +kernel
theorem dX4_digest_231 : decode cX4_digest 231 = .ok (.aload_n 0, 1) := by decide +kernel
theorem dX4_digest_232 : decode cX4_digest 232 = .ok (.getfield 59, 3) := by decide +kernel
theorem dX4_digest_235 : decode cX4_digest 235 = .ok (.imul, 1) := by decide +kernel
theorem dX4_digest_236 : decode cX4_digest 236 = .ok (.if_icmp .ge 72, 3) := by decide +kernel
theorem dX4_digest_239 : decode cX4_digest 239 = .ok (.lload_n 2, 1) := by decide +kernel
theorem dX4_digest_240 : decode cX4_digest 240 = .ok (.ldc2_w 197, 3) := by decide +kernel
theorem dX4_digest_243 : decode cX4_digest 243 = .ok (.lmul, 1) := by decide +kernel
theorem dX4_digest_244 : decode cX4_digest 244 = .ok (.aload_n 0, 1) := by decide +kernel
theorem dX4_digest_245 : decode cX4_digest 245 = .ok (.getfield 9, 3) := by decide +kernel
theorem dX4_digest_248 : decode cX4_digest 248 = .ok (.iload 4, 2) := by decide +kernel
theorem dX4_digest_250 : decode cX4_digest 250 = .ok (.baload, 1) := by decide +kernel
theorem dX4_digest_251 : decode cX4_digest 251 = .ok (.ifCond .eq 7, 3) := by decide +kernel
theorem dX4_digest_254 : decode cX4_digest 254 = .ok (.iconst 1, 1) := by decide +kernel
theorem dX4_digest_255 : decode cX4_digest 255 = .ok (.goto 4, 3) := by decide +kernel
theorem dX4_digest_258 : decode cX4_digest 258 = .ok (.iconst 0, 1) := by decide +kernel
theorem dX4_digest_259 : decode cX4_digest 259 = .ok (.i2l, 1) := by decide +kernel
theorem dX4_digest_260 : decode cX4_digest 260 = .ok (.ladd, 1) := by decide +kernel
theorem dX4_digest_261 : decode cX4_digest 261 = .ok (.ldc2_w 197, 3) := by decide +kernel
theorem dX4_digest_264 : decode cX4_digest 264 = .ok (.lmul, 1) := by decide +kernel
theorem dX4_digest_265 : decode cX4_digest 265 = .ok (.aload_n 0, 1) := by decide +kernel
theorem dX4_digest_266 : decode cX4_digest 266 = .ok (.getfield 13, 3) := by decide +kernel
theorem dX4_digest_269 : decode cX4_digest 269 = .ok (.iload 4, 2) := by decide +kernel
theorem dX4_digest_271 : decode cX4_digest 271 = .ok (.iaload, 1) := by decide +kernel
theorem dX4_digest_272 : decode cX4_digest 272 = .ok (.i2l, 1) := by decide +kernel
theorem dX4_digest_273 : decode cX4_digest 273 = .ok (.ladd, 1) := by decide +kernel
theorem dX4_digest_274 : decode cX4_digest 274 = .ok (.lstore_n 2, 1) := by decide +kernel
theorem dX4_digest_275 : decode cX4_digest 275 = .ok (.lload_n 2, 1) := by decide +kernel
theorem dX4_digest_276 : decode cX4_digest 276 = .ok (.ldc2_w 197, 3) := by decide +kernel
theorem dX4_digest_279 : decode cX4_digest 279 = .ok (.lmul, 1) := by decide +kernel
theorem dX4_digest_280 : decode cX4_digest 280 = .ok (.aload_n 0, 1) := by decide +kernel
theorem dX4_digest_281 : decode cX4_digest 281 = .ok (.iload 4, 2) := by decide +kernel
theorem dX4_digest_283 : decode cX4_digest 283 = .ok (.iconst 0, 1) := by decide +kernel
theorem dX4_digest_284 : decode cX4_digest 284 = .ok (.invokevirtual 163, 3) := by decide +kernel
theorem dX4_digest_287 : decode cX4_digest 287 = .ok (.i2l, 1) := by decide +kernel
theorem dX4_digest_288 : decode cX4_digest 288 = .ok (.ladd, 1) := by decide +kernel
theorem dX4_digest_289 : decode cX4_digest 289 = .ok (.ldc2_w 197, 3) := by decide +kernel
theorem dX4_digest_292 : decode cX4_digest 292 = .ok (.lmul, 1) := by decide +kernel
theorem dX4_digest_293 : decode cX4_digest 293 = .ok (.aload_n 0, 1) := by decide +kernel
theorem dX4_digest_294 : decode cX4_digest 294 = .ok (.iload 4, 2) := by decide +kernel
theorem dX4_digest_296 : decode cX4_digest 296 = .ok (.invokevirtual 172, 3) := by decide +kernel
theorem dX4_digest_299 : decode cX4_digest 299 = .ok (.i2l, 1) := by decide +kernel
theorem dX4_digest_300 : decode cX4_digest 300 = .ok (.ladd, 1) := by decide +kernel
theorem dX4_digest_301 : decode cX4_digest 301 = .ok (.lstore_n 2, 1) := by decide +kernel
theorem dX4_digest_302 : decode cX4_digest 302 = .ok (.iinc 4 1, 3) := by decide +kernel
theorem dX4_digest_305 : decode cX4_digest 305 = .ok (.goto (-80), 3) := by decide +kernel
theorem dX4_digest_308 : decode cX4_digest 308 = .ok (.lload_n 2, 1) := by decide +kernel
theorem dX4_digest_309 : decode cX4_digest 309 = .ok (.lreturn, 1) := by decide +kernel
