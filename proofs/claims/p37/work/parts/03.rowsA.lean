theorem dX0_init_0 : decode cX0_init 0 = .ok (.aload_n 0, 1) := by decide +kernel
theorem dX0_init_1 : decode cX0_init 1 = .ok (.invokespecial 3, 3) := by decide +kernel
theorem dX0_init_4 : decode cX0_init 4 = .ok (.aload_n 0, 1) := by decide +kernel
theorem dX0_init_5 : decode cX0_init 5 = .ok (.bipush 49, 2) := by decide +kernel
theorem dX0_init_7 : decode cX0_init 7 = .ok (.newarray .boolean, 2) := by decide +kernel
theorem dX0_init_9 : decode cX0_init 9 = .ok (.putfield 9, 3) := by decide +kernel
theorem dX0_init_12 : decode cX0_init 12 = .ok (.aload_n 0, 1) := by decide +kernel
theorem dX0_init_13 : decode cX0_init 13 = .ok (.bipush 49, 2) := by decide +kernel
theorem dX0_init_15 : decode cX0_init 15 = .ok (.newarray .int, 2) := by decide +kernel
theorem dX0_init_17 : decode cX0_init 17 = .ok (.putfield 15, 3) := by decide +kernel
theorem dX0_init_20 : decode cX0_init 20 = .ok (.return_, 1) := by decide +kernel
theorem dX0_cellAt_0 : decode cX0_cellAt 0 = .ok (.iload_n 1, 1) := by decide +kernel
theorem dX0_cellAt_1 : decode cX0_cellAt 1 = .ok (.bipush 7, 2) := by decide +kernel
theorem dX0_cellAt_3 : decode cX0_cellAt 3 = .ok (.imul, 1) := by decide +kernel
theorem dX0_cellAt_4 : decode cX0_cellAt 4 = .ok (.iload_n 0, 1) := by decide +kernel
theorem dX0_cellAt_5 : decode cX0_cellAt 5 = .ok (.iadd, 1) := by decide +kernel
theorem dX0_cellAt_6 : decode cX0_cellAt 6 = .ok (.ireturn, 1) := by decide +kernel
theorem dX0_columnOf_0 : decode cX0_columnOf 0 = .ok (.iload_n 0, 1) := by decide +kernel
theorem dX0_columnOf_1 : decode cX0_columnOf 1 = .ok (.bipush 7, 2) := by decide +kernel
theorem dX0_columnOf_3 : decode cX0_columnOf 3 = .ok (.irem, 1) := by decide +kernel
theorem dX0_columnOf_4 : decode cX0_columnOf 4 = .ok (.ireturn, 1) := by decide +kernel
theorem dX0_rowOf_0 : decode cX0_rowOf 0 = .ok (.iload_n 0, 1) := by decide +kernel
theorem dX0_rowOf_1 : decode cX0_rowOf 1 = .ok (.bipush 7, 2) := by decide +kernel
theorem dX0_rowOf_3 : decode cX0_rowOf 3 = .ok (.idiv, 1) := by decide +kernel
theorem dX0_rowOf_4 : decode cX0_rowOf 4 = .ok (.ireturn, 1) := by decide +kernel
theorem dX0_layOut_0 : decode cX0_layOut 0 = .ok (.aload_n 0, 1) := by decide +kernel
theorem dX0_layOut_1 : decode cX0_layOut 1 = .ok (.iload_n 1, 1) := by decide +kernel
theorem dX0_layOut_2 : decode cX0_layOut 2 = .ok (.putfield 19, 3) := by decide +kernel
theorem dX0_layOut_5 : decode cX0_layOut 5 = .ok (.aload_n 0, 1) := by decide +kernel
theorem dX0_layOut_6 : decode cX0_layOut 6 = .ok (.iload_n 2, 1) := by decide +kernel
theorem dX0_layOut_7 : decode cX0_layOut 7 = .ok (.putfield 23, 3) := by decide +kernel
theorem dX0_layOut_10 : decode cX0_layOut 10 = .ok (.iconst 0, 1) := by decide +kernel
theorem dX0_layOut_11 : decode cX0_layOut 11 = .ok (.istore_n 3, 1) := by decide +kernel
theorem dX0_layOut_12 : decode cX0_layOut 12 = .ok (.iload_n 3, 1) := by decide +kernel
theorem dX0_layOut_13 : decode cX0_layOut 13 = .ok (.bipush 49, 2) := by decide +kernel
theorem dX0_layOut_15 : decode cX0_layOut 15 = .ok (.if_icmp .ge 23, 3) := by decide +kernel
theorem dX0_layOut_18 : decode cX0_layOut 18 = .ok (.aload_n 0, 1) := by decide +kernel
theorem dX0_layOut_19 : decode cX0_layOut 19 = .ok (.getfield 9, 3) := by decide +kernel
theorem dX0_layOut_22 : decode cX0_layOut 22 = .ok (.iload_n 3, 1) := by decide +kernel
theorem dX0_layOut_23 : decode cX0_layOut 23 = .ok (.iconst 0, 1) := by decide +kernel
theorem dX0_layOut_24 : decode cX0_layOut 24 = .ok (.bastore, 1) := by decide +kernel
theorem dX0_layOut_25 : decode cX0_layOut 25 = .ok (.aload_n 0, 1) := by decide +kernel
theorem dX0_layOut_26 : decode cX0_layOut 26 = .ok (.getfield 15, 3) := by decide +kernel
theorem dX0_layOut_29 : decode cX0_layOut 29 = .ok (.iload_n 3, 1) := by decide +kernel
theorem dX0_layOut_30 : decode cX0_layOut 30 = .ok (.iconst 0, 1) := by decide +kernel
theorem dX0_layOut_31 : decode cX0_layOut 31 = .ok (.iastore, 1) := by decide +kernel
theorem dX0_layOut_32 : decode cX0_layOut 32 = .ok (.iinc 3 1, 3) := by decide +kernel
theorem dX0_layOut_35 : decode cX0_layOut 35 = .ok (.goto (-23), 3) := by decide +kernel
theorem dX0_layOut_38 : decode cX0_layOut 38 = .ok (.return_, 1) := by decide +kernel
theorem dX0_has_0 : decode cX0_has 0 = .ok (.iload_n 1, 1) := by decide +kernel
theorem dX0_has_1 : decode cX0_has 1 = .ok (.ifCond .lt 27, 3) := by decide +kernel
theorem dX0_has_4 : decode cX0_has 4 = .ok (.iload_n 1, 1) := by decide +kernel
theorem dX0_has_5 : decode cX0_has 5 = .ok (.aload_n 0, 1) := by decide +kernel
theorem dX0_has_6 : decode cX0_has 6 = .ok (.getfield 19, 3) := by decide +kernel
theorem dX0_has_9 : decode cX0_has 9 = .ok (.if_icmp .ge 19, 3) := by decide +kernel
theorem dX0_has_12 : decode cX0_has 12 = .ok (.iload_n 2, 1) := by decide +kernel
theorem dX0_has_13 : decode cX0_has 13 = .ok (.ifCond .lt 15, 3) := by decide +kernel
theorem dX0_has_16 : decode cX0_has 16 = .ok (.iload_n 2, 1) := by decide +kernel
theorem dX0_has_17 : decode cX0_has 17 = .ok (.aload_n 0, 1) := by decide +kernel
theorem dX0_has_18 : decode cX0_has 18 = .ok (.getfield 23, 3) := by decide +kernel
theorem dX0_has_21 : decode cX0_has 21 = .ok (.if_icmp .ge 7, 3) := by decide +kernel
theorem dX0_has_24 : decode cX0_has 24 = .ok (.iconst 1, 1) := by decide +kernel
theorem dX0_has_25 : decode cX0_has 25 = .ok (.goto 4, 3) := by decide +kernel
theorem dX0_has_28 : decode cX0_has 28 = .ok (.iconst 0, 1) := by decide +kernel
theorem dX0_has_29 : decode cX0_has 29 = .ok (.ireturn, 1) := by decide +kernel
set_option maxRecDepth 20000 in
theorem ggX0_isFree_X0_has : GoodIn wsX0_isFree wsX0_has := goodIn_r _ [6, 7, 8, 12, 13, 14, 15] (by decide +kernel) (by decide +kernel)
set_option maxRecDepth 20000 in
theorem gX0_isFree_X0_has : GoodIn wsX0_isFree (wsV RX0 26 RX0 yX0_has wsX0_has) := goodIn_app (goodIn_of _ (by decide +kernel)) ggX0_isFree_X0_has
set_option maxRecDepth 20000 in
theorem ggX0_isFree_X0_cellAt : GoodIn wsX0_isFree wsX0_cellAt := goodIn_r _ [11] (by decide +kernel) (by decide +kernel)
set_option maxRecDepth 20000 in
theorem gX0_isFree_X0_cellAt : GoodIn wsX0_isFree (va_wsS RX0 30 yX0_cellAt wsX0_cellAt) := goodIn_app (goodIn_of _ (by decide +kernel)) ggX0_isFree_X0_cellAt
theorem dX0_isFree_0 : decode cX0_isFree 0 = .ok (.aload_n 0, 1) := by decide +kernel
theorem dX0_isFree_1 : decode cX0_isFree 1 = .ok (.iload_n 1, 1) := by decide +kernel
theorem dX0_isFree_2 : decode cX0_isFree 2 = .ok (.iload_n 2, 1) := by decide +kernel
theorem dX0_isFree_3 : decode cX0_isFree 3 = .ok (.invokevirtual 26, 3) := by decide +kernel
theorem dX0_isFree_6 : decode cX0_isFree 6 = .ok (.ifCond .eq 20, 3) := by decide +kernel
theorem dX0_isFree_9 : decode cX0_isFree 9 = .ok (.aload_n 0, 1) := by decide +kernel
theorem dX0_isFree_10 : decode cX0_isFree 10 = .ok (.getfield 9, 3) := by decide +kernel
theorem dX0_isFree_13 : decode cX0_isFree 13 = .ok (.iload_n 1, 1) := by decide +kernel
theorem dX0_isFree_14 : decode cX0_isFree 14 = .ok (.iload_n 2, 1) := by decide +kernel
theorem dX0_isFree_15 : decode cX0_isFree 15 = .ok (.invokestatic 30, 3) := by decide +kernel
theorem dX0_isFree_18 : decode cX0_isFree 18 = .ok (.baload, 1) := by decide +kernel
theorem dX0_isFree_19 : decode cX0_isFree 19 = .ok (.ifCond .ne 7, 3) := by decide +kernel
theorem dX0_isFree_22 : decode cX0_isFree 22 = .ok (.iconst 1, 1) := by decide +kernel
theorem dX0_isFree_23 : decode cX0_isFree 23 = .ok (.goto 4, 3) := by decide +kernel
theorem dX0_isFree_26 : decode cX0_isFree 26 = .ok (.iconst 0, 1) := by decide +kernel
theorem dX0_isFree_27 : decode cX0_isFree 27 = .ok (.ireturn, 1) := by decide +kernel
set_option maxRecDepth 20000 in
theorem ggX0_isFreeCell_X0_columnOf : GoodIn wsX0_isFreeCell wsX0_columnOf := goodIn_r _ [4] (by decide +kernel) (by decide +kernel)
set_option maxRecDepth 20000 in
theorem gX0_isFreeCell_X0_columnOf : GoodIn wsX0_isFreeCell (va_wsS RX0 34 yX0_columnOf wsX0_columnOf) := goodIn_app (goodIn_of _ (by decide +kernel)) ggX0_isFreeCell_X0_columnOf
set_option maxRecDepth 20000 in
theorem ggX0_isFreeCell_X0_rowOf : GoodIn wsX0_isFreeCell wsX0_rowOf := goodIn_r _ [7] (by decide +kernel) (by decide +kernel)
set_option maxRecDepth 20000 in
theorem gX0_isFreeCell_X0_rowOf : GoodIn wsX0_isFreeCell (va_wsS RX0 38 yX0_rowOf wsX0_rowOf) := goodIn_app (goodIn_of _ (by decide +kernel)) ggX0_isFreeCell_X0_rowOf
set_option maxRecDepth 20000 in
theorem ggX0_isFreeCell_X0_isFree : GoodIn wsX0_isFreeCell wsX0_isFree := goodIn_r _ [11, 12, 13, 14, 15, 3, 16, 17, 18, 19, 20, 21, 22, 23, 24, 25] (by decide +kernel) (by decide +kernel)
set_option maxRecDepth 20000 in
theorem gX0_isFreeCell_X0_isFree : GoodIn wsX0_isFreeCell (wsV RX0 41 RX0 yX0_isFree wsX0_isFree) := goodIn_app (goodIn_of _ (by decide +kernel)) ggX0_isFreeCell_X0_isFree
theorem dX0_isFreeCell_0 : decode cX0_isFreeCell 0 = .ok (.iload_n 1, 1) := by decide +kernel
theorem dX0_isFreeCell_1 : decode cX0_isFreeCell 1 = .ok (.ifCond .lt 22, 3) := by decide +kernel
theorem dX0_isFreeCell_4 : decode cX0_isFreeCell 4 = .ok (.aload_n 0, 1) := by decide +kernel
theorem dX0_isFreeCell_5 : decode cX0_isFreeCell 5 = .ok (.iload_n 1, 1) := by decide +kernel
theorem dX0_isFreeCell_6 : decode cX0_isFreeCell 6 = .ok (.invokestatic 34, 3) := by decide +kernel
theorem dX0_isFreeCell_9 : decode cX0_isFreeCell 9 = .ok (.iload_n 1, 1) := by decide +kernel
theorem dX0_isFreeCell_10 : decode cX0_isFreeCell 10 = .ok (.invokestatic 38, 3) := by decide +kernel
theorem dX0_isFreeCell_13 : decode cX0_isFreeCell 13 = .ok (.invokevirtual 41, 3) := by decide +kernel
theorem dX0_isFreeCell_16 : decode cX0_isFreeCell 16 = .ok (.ifCond .eq 7, 3) := by decide +kernel
theorem dX0_isFreeCell_19 : decode cX0_isFreeCell 19 = .ok (.iconst 1, 1) := by decide +kernel
theorem dX0_isFreeCell_20 : decode cX0_isFreeCell 20 = .ok (.goto 4, 3) := by decide +kernel
theorem dX0_isFreeCell_23 : decode cX0_isFreeCell 23 = .ok (.iconst 0, 1) := by decide +kernel
theorem dX0_isFreeCell_24 : decode cX0_isFreeCell 24 = .ok (.ireturn, 1) := by decide +kernel
set_option maxRecDepth 20000 in
theorem ggX0_printOn_X0_has : GoodIn wsX0_printOn wsX0_has := goodIn_r _ [6, 7, 8, 12, 13, 14, 15] (by decide +kernel) (by decide +kernel)
set_option maxRecDepth 20000 in
theorem gX0_printOn_X0_has : GoodIn wsX0_printOn (wsV RX0 26 RX0 yX0_has wsX0_has) := goodIn_app (goodIn_of _ (by decide +kernel)) ggX0_printOn_X0_has
set_option maxRecDepth 20000 in
theorem ggX0_printOn_X0_cellAt : GoodIn wsX0_printOn wsX0_cellAt := goodIn_r _ [11] (by decide +kernel) (by decide +kernel)
set_option maxRecDepth 20000 in
theorem gX0_printOn_X0_cellAt : GoodIn wsX0_printOn (va_wsS RX0 30 yX0_cellAt wsX0_cellAt) := goodIn_app (goodIn_of _ (by decide +kernel)) ggX0_printOn_X0_cellAt
theorem dX0_printOn_0 : decode cX0_printOn 0 = .ok (.aload_n 0, 1) := by decide +kernel
theorem dX0_printOn_1 : decode cX0_printOn 1 = .ok (.iload_n 1, 1) := by decide +kernel
theorem dX0_printOn_2 : decode cX0_printOn 2 = .ok (.iload_n 2, 1) := by decide +kernel
theorem dX0_printOn_3 : decode cX0_printOn 3 = .ok (.invokevirtual 26, 3) := by decide +kernel
theorem dX0_printOn_6 : decode cX0_printOn 6 = .ok (.ifCond .eq 16, 3) := by decide +kernel
theorem dX0_printOn_9 : decode cX0_printOn 9 = .ok (.aload_n 0, 1) := by decide +kernel
theorem dX0_printOn_10 : decode cX0_printOn 10 = .ok (.getfield 15, 3) := by decide +kernel
theorem dX0_printOn_13 : decode cX0_printOn 13 = .ok (.iload_n 1, 1) := by decide +kernel
theorem dX0_printOn_14 : decode cX0_printOn 14 = .ok (.iload_n 2, 1) := by decide +kernel
theorem dX0_printOn_15 : decode cX0_printOn 15 = .ok (.invokestatic 30, 3) := by decide +kernel
theorem dX0_printOn_18 : decode cX0_printOn 18 = .ok (.iaload, 1) := by decide +kernel
theorem dX0_printOn_19 : decode cX0_printOn 19 = .ok (.goto 4, 3) := by decide +kernel
theorem dX0_printOn_22 : decode cX0_printOn 22 = .ok (.iconst 0, 1) := by decide +kernel
theorem dX0_printOn_23 : decode cX0_printOn 23 = .ok (.ireturn, 1) := by decide +kernel
theorem dX0_printOnto_0 : decode cX0_printOnto 0 = .ok (.iload_n 1, 1) := by decide +kernel
theorem dX0_printOnto_1 : decode cX0_printOnto 1 = .ok (.ifCond .lt 16, 3) := by decide +kernel
theorem dX0_printOnto_4 : decode cX0_printOnto 4 = .ok (.iload_n 1, 1) := by decide +kernel
theorem dX0_printOnto_5 : decode cX0_printOnto 5 = .ok (.bipush 49, 2) := by decide +kernel
theorem dX0_printOnto_7 : decode cX0_printOnto 7 = .ok (.if_icmp .ge 10, 3) := by decide +kernel
theorem dX0_printOnto_10 : decode cX0_printOnto 10 = .ok (.aload_n 0, 1) := by decide +kernel
theorem dX0_printOnto_11 : decode cX0_printOnto 11 = .ok (.getfield 15, 3) := by decide +kernel
theorem dX0_printOnto_14 : decode cX0_printOnto 14 = .ok (.iload_n 1, 1) := by decide +kernel
theorem dX0_printOnto_15 : decode cX0_printOnto 15 = .ok (.iload_n 2, 1) := by decide +kernel
theorem dX0_printOnto_16 : decode cX0_printOnto 16 = .ok (.iastore, 1) := by decide +kernel
theorem dX0_printOnto_17 : decode cX0_printOnto 17 = .ok (.return_, 1) := by decide +kernel
theorem dX0_turnOver_0 : decode cX0_turnOver 0 = .ok (.iload_n 1, 1) := by decide +kernel
theorem dX0_turnOver_1 : decode cX0_turnOver 1 = .ok (.ifCond .lt 9, 3) := by decide +kernel
theorem dX0_turnOver_4 : decode cX0_turnOver 4 = .ok (.iload_n 1, 1) := by decide +kernel
theorem dX0_turnOver_5 : decode cX0_turnOver 5 = .ok (.bipush 49, 2) := by decide +kernel
theorem dX0_turnOver_7 : decode cX0_turnOver 7 = .ok (.if_icmp .lt 5, 3) := by decide +kernel
theorem dX0_turnOver_10 : decode cX0_turnOver 10 = .ok (.iconst 0, 1) := by decide +kernel
theorem dX0_turnOver_11 : decode cX0_turnOver 11 = .ok (.ireturn, 1) := by decide +kernel
theorem dX0_turnOver_12 : decode cX0_turnOver 12 = .ok (.aload_n 0, 1) := by decide +kernel
theorem dX0_turnOver_13 : decode cX0_turnOver 13 = .ok (.getfield 9, 3) := by decide +kernel
theorem dX0_turnOver_16 : decode cX0_turnOver 16 = .ok (.iload_n 1, 1) := by decide +kernel
theorem dX0_turnOver_17 : decode cX0_turnOver 17 = .ok (.aload_n 0, 1) := by decide +kernel
theorem dX0_turnOver_18 : decode cX0_turnOver 18 = .ok (.getfield 9, 3) := by decide +kernel
theorem dX0_turnOver_21 : decode cX0_turnOver 21 = .ok (.iload_n 1, 1) := by decide +kernel
theorem dX0_turnOver_22 : decode cX0_turnOver 22 = .ok (.baload, 1) := by decide +kernel
theorem dX0_turnOver_23 : decode cX0_turnOver 23 = .ok (.ifCond .ne 7, 3) := by decide +kernel
theorem dX0_turnOver_26 : decode cX0_turnOver 26 = .ok (.iconst 1, 1) := by decide +kernel
theorem dX0_turnOver_27 : decode cX0_turnOver 27 = .ok (.goto 4, 3) := by decide +kernel
theorem dX0_turnOver_30 : decode cX0_turnOver 30 = .ok (.iconst 0, 1) := by decide +kernel
theorem dX0_turnOver_31 : decode cX0_turnOver 31 = .ok (.bastore, 1) := by decide +kernel
theorem dX0_turnOver_32 : decode cX0_turnOver 32 = .ok (.aload_n 0, 1) := by decide +kernel
theorem dX0_turnOver_33 : decode cX0_turnOver 33 = .ok (.getfield 9, 3) := by decide +kernel
theorem dX0_turnOver_36 : decode cX0_turnOver 36 = .ok (.iload_n 1, 1) := by decide +kernel
theorem dX0_turnOver_37 : decode cX0_turnOver 37 = .ok (.baload, 1) := by decide +kernel
theorem dX0_turnOver_38 : decode cX0_turnOver 38 = .ok (.ireturn, 1) := by decide +kernel
set_option maxRecDepth 20000 in
theorem ggX0_nextCell_X0_columnOf : GoodIn wsX0_nextCell wsX0_columnOf := goodIn_r _ [4] (by decide +kernel) (by decide +kernel)
set_option maxRecDepth 20000 in
theorem gX0_nextCell_X0_columnOf : GoodIn wsX0_nextCell (va_wsS RX0 34 yX0_columnOf wsX0_columnOf) := goodIn_app (goodIn_of _ (by decide +kernel)) ggX0_nextCell_X0_columnOf
set_option maxRecDepth 20000 in
theorem ggX0_nextCell_X0_rowOf : GoodIn wsX0_nextCell wsX0_rowOf := goodIn_r _ [7] (by decide +kernel) (by decide +kernel)
set_option maxRecDepth 20000 in
theorem gX0_nextCell_X0_rowOf : GoodIn wsX0_nextCell (va_wsS RX0 38 yX0_rowOf wsX0_rowOf) := goodIn_app (goodIn_of _ (by decide +kernel)) ggX0_nextCell_X0_rowOf
set_option maxRecDepth 20000 in
theorem ggX0_nextCell_X0_isFree : GoodIn wsX0_nextCell wsX0_isFree := goodIn_r _ [11, 12, 13, 14, 15, 3, 16, 17, 18, 19, 20, 21, 22, 23, 24, 25] (by decide +kernel) (by decide +kernel)
set_option maxRecDepth 20000 in
theorem gX0_nextCell_X0_isFree : GoodIn wsX0_nextCell (wsV RX0 41 RX0 yX0_isFree wsX0_isFree) := goodIn_app (goodIn_of _ (by decide +kernel)) ggX0_nextCell_X0_isFree
set_option maxRecDepth 20000 in
theorem ggX0_nextCell_X0_cellAt : GoodIn wsX0_nextCell wsX0_cellAt := goodIn_r _ [21] (by decide +kernel) (by decide +kernel)
set_option maxRecDepth 20000 in
theorem gX0_nextCell_X0_cellAt : GoodIn wsX0_nextCell (va_wsS RX0 30 yX0_cellAt wsX0_cellAt) := goodIn_app (goodIn_of _ (by decide +kernel)) ggX0_nextCell_X0_cellAt
theorem dX0_nextCell_0 : decode cX0_nextCell 0 = .ok (.iload_n 1, 1) := by decide +kernel
theorem dX0_nextCell_1 : decode cX0_nextCell 1 = .ok (.invokestatic 34, 3) := by decide +kernel
theorem dX0_nextCell_4 : decode cX0_nextCell 4 = .ok (.istore_n 3, 1) := by decide +kernel
theorem dX0_nextCell_5 : decode cX0_nextCell 5 = .ok (.iload_n 1, 1) := by decide +kernel
theorem dX0_nextCell_6 : decode cX0_nextCell 6 = .ok (.invokestatic 38, 3) := by decide +kernel
theorem dX0_nextCell_9 : decode cX0_nextCell 9 = .ok (.istore 4, 2) := by decide +kernel
theorem dX0_nextCell_11 : decode cX0_nextCell 11 = .ok (.iload_n 2, 1) := by decide +kernel
theorem dX0_nextCell_12 : decode cX0_nextCell 12 = .ok (.tableswitch 56 0 3 #[32, 38, 44, 50], 32) := by decide +kernel
theorem dX0_nextCell_44 : decode cX0_nextCell 44 = .ok (.iinc 4 (-1), 3) := by decide +kernel
theorem dX0_nextCell_47 : decode cX0_nextCell 47 = .ok (.goto 23, 3) := by decide +kernel
theorem dX0_nextCell_50 : decode cX0_nextCell 50 = .ok (.iinc 3 1, 3) := by decide +kernel
theorem dX0_nextCell_53 : decode cX0_nextCell 53 = .ok (.goto 17, 3) := by decide +kernel
theorem dX0_nextCell_56 : decode cX0_nextCell 56 = .ok (.iinc 4 1, 3) := by decide +kernel
theorem dX0_nextCell_59 : decode cX0_nextCell 59 = .ok (.goto 11, 3) := by decide +kernel
theorem dX0_nextCell_62 : decode cX0_nextCell 62 = .ok (.iinc 3 (-1), 3) := by decide +kernel
theorem dX0_nextCell_65 : decode cX0_nextCell 65 = .ok (.goto 5, 3) := by decide +kernel
theorem dX0_nextCell_68 : decode cX0_nextCell 68 = .ok (.iconst (-1), 1) := by decide +kernel
theorem dX0_nextCell_69 : decode cX0_nextCell 69 = .ok (.ireturn, 1) := by decide +kernel
theorem dX0_nextCell_70 : decode cX0_nextCell 70 = .ok (.aload_n 0, 1) := by decide +kernel
theorem dX0_nextCell_71 : decode cX0_nextCell 71 = .ok (.iload_n 3, 1) := by decide +kernel
theorem dX0_nextCell_72 : decode cX0_nextCell 72 = .ok (.iload 4, 2) := by decide +kernel
theorem dX0_nextCell_74 : decode cX0_nextCell 74 = .ok (.invokevirtual 41, 3) := by decide +kernel
theorem dX0_nextCell_77 : decode cX0_nextCell 77 = .ok (.ifCond .eq 12, 3) := by decide +kernel
theorem dX0_nextCell_80 : decode cX0_nextCell 80 = .ok (.iload_n 3, 1) := by decide +kernel
theorem dX0_nextCell_81 : decode cX0_nextCell 81 = .ok (.iload 4, 2) := by decide +kernel
theorem dX0_nextCell_83 : decode cX0_nextCell 83 = .ok (.invokestatic 30, 3) := by decide +kernel
theorem dX0_nextCell_86 : decode cX0_nextCell 86 = .ok (.goto 4, 3) := by decide +kernel
theorem dX0_nextCell_89 : decode cX0_nextCell 89 = .ok (.iconst (-1), 1) := by decide +kernel
theorem dX0_nextCell_90 : decode cX0_nextCell 90 = .ok (.ireturn, 1) := by decide +kernel
theorem dX0_countWalls_0 : decode cX0_countWalls 0 = .ok (.iconst 0, 1) := by decide +kernel
theorem dX0_countWalls_1 : decode cX0_countWalls 1 = .ok (.istore_n 1, 1) := by decide +kernel
theorem dX0_countWalls_2 : decode cX0_countWalls 2 = .ok (.iconst 0, 1) := by decide +kernel
theorem dX0_countWalls_3 : decode cX0_countWalls 3 = .ok (.istore_n 2, 1) := by decide +kernel
theorem dX0_countWalls_4 : decode cX0_countWalls 4 = .ok (.iload_n 2, 1) := by decide +kernel
theorem dX0_countWalls_5 : decode cX0_countWalls 5 = .ok (.bipush 49, 2) := by decide +kernel
theorem dX0_countWalls_7 : decode cX0_countWalls 7 = .ok (.if_icmp .ge 21, 3) := by decide +kernel
theorem dX0_countWalls_10 : decode cX0_countWalls 10 = .ok (.aload_n 0, 1) := by decide +kernel
theorem dX0_countWalls_11 : decode cX0_countWalls 11 = .ok (.getfield 9, 3) := by decide +kernel
theorem dX0_countWalls_14 : decode cX0_countWalls 14 = .ok (.iload_n 2, 1) := by decide +kernel
theorem dX0_countWalls_15 : decode cX0_countWalls 15 = .ok (.baload, 1) := by decide +kernel
theorem dX0_countWalls_16 : decode cX0_countWalls 16 = .ok (.ifCond .eq 6, 3) := by decide +kernel
theorem dX0_countWalls_19 : decode cX0_countWalls 19 = .ok (.iinc 1 1, 3) := by decide +kernel
theorem dX0_countWalls_22 : decode cX0_countWalls 22 = .ok (.iinc 2 1, 3) := by decide +kernel
theorem dX0_countWalls_25 : decode cX0_countWalls 25 = .ok (.goto (-21), 3) := by decide +kernel
theorem dX0_countWalls_28 : decode cX0_countWalls 28 = .ok (.iload_n 1, 1) := by decide +kernel
theorem dX0_countWalls_29 : decode cX0_countWalls 29 = .ok (.ireturn, 1) := by decide +kernel
set_option maxRecDepth 20000 in
theorem ggX0_countPrints_X0_printOn : GoodIn wsX0_countPrints wsX0_printOn := goodIn_r _ [7, 8, 9, 10, 11, 6, 12, 2, 1, 13, 14, 15, 16, 17, 18, 19] (by decide +kernel) (by decide +kernel)
set_option maxRecDepth 20000 in
theorem gX0_countPrints_X0_printOn : GoodIn wsX0_countPrints (wsV RX0 44 RX0 yX0_printOn wsX0_printOn) := goodIn_app (goodIn_of _ (by decide +kernel)) ggX0_countPrints_X0_printOn
theorem dX0_countPrints_0 : decode cX0_countPrints 0 = .ok (.iconst 0, 1) := by decide +kernel
theorem dX0_countPrints_1 : decode cX0_countPrints 1 = .ok (.istore_n 2, 1) := by decide +kernel
theorem dX0_countPrints_2 : decode cX0_countPrints 2 = .ok (.iconst 0, 1) := by decide +kernel
theorem dX0_countPrints_3 : decode cX0_countPrints 3 = .ok (.istore_n 3, 1) := by decide +kernel
theorem dX0_countPrints_4 : decode cX0_countPrints 4 = .ok (.iload_n 3, 1) := by decide +kernel
theorem dX0_countPrints_5 : decode cX0_countPrints 5 = .ok (.aload_n 0, 1) := by decide +kernel
theorem dX0_countPrints_6 : decode cX0_countPrints 6 = .ok (.getfield 23, 3) := by decide +kernel
theorem dX0_countPrints_9 : decode cX0_countPrints 9 = .ok (.if_icmp .ge 41, 3) := by decide +kernel
theorem dX0_countPrints_12 : decode cX0_countPrints 12 = .ok (.iconst 0, 1) := by decide +kernel
theorem dX0_countPrints_13 : decode cX0_countPrints 13 = .ok (.istore 4, 2) := by decide +kernel
theorem dX0_countPrints_15 : decode cX0_countPrints 15 = .ok (.iload 4, 2) := by decide +kernel
theorem dX0_countPrints_17 : decode cX0_countPrints 17 = .ok (.aload_n 0, 1) := by decide +kernel
theorem dX0_countPrints_18 : decode cX0_countPrints 18 = .ok (.getfield 19, 3) := by decide +kernel
theorem dX0_countPrints_21 : decode cX0_countPrints 21 = .ok (.if_icmp .ge 23, 3) := by decide +kernel
theorem dX0_countPrints_24 : decode cX0_countPrints 24 = .ok (.aload_n 0, 1) := by decide +kernel
theorem dX0_countPrints_25 : decode cX0_countPrints 25 = .ok (.iload 4, 2) := by decide +kernel
theorem dX0_countPrints_27 : decode cX0_countPrints 27 = .ok (.iload_n 3, 1) := by decide +kernel
theorem dX0_countPrints_28 : decode cX0_countPrints 28 = .ok (.invokevirtual 44, 3) := by decide +kernel
theorem dX0_countPrints_31 : decode cX0_countPrints 31 = .ok (.iload_n 1, 1) := by decide +kernel
theorem dX0_countPrints_32 : decode cX0_countPrints 32 = .ok (.if_icmp .ne 6, 3) := by decide +kernel
theorem dX0_countPrints_35 : decode cX0_countPrints 35 = .ok (.iinc 2 1, 3) := by decide +kernel
theorem dX0_countPrints_38 : decode cX0_countPrints 38 = .ok (.iinc 4 1, 3) := by decide +kernel
theorem dX0_countPrints_41 : decode cX0_countPrints 41 = .ok (.goto (-26), 3) := by decide +kernel
theorem dX0_countPrints_44 : decode cX0_countPrints 44 = .ok (.iinc 3 1, 3) := by decide +kernel
theorem dX0_countPrints_47 : decode cX0_countPrints 47 = .ok (.goto (-43), 3) := by decide +kernel
theorem dX0_countPrints_50 : decode cX0_countPrints 50 = .ok (.iload_n 2, 1) := by decide +kernel
theorem dX0_countPrints_51 : decode cX0_countPrints 51 = .ok (.ireturn, 1) := by decide +kernel
theorem dX1_init_0 : decode cX1_init 0 = .ok (.aload_n 0, 1) := by decide +kernel
theorem dX1_init_1 : decode cX1_init 1 = .ok (.invokespecial 3, 3) := by decide +kernel
theorem dX1_init_4 : decode cX1_init 4 = .ok (.aload_n 0, 1) := by decide +kernel
theorem dX1_init_5 : decode cX1_init 5 = .ok (.sipush 1764, 3) := by decide +kernel
theorem dX1_init_8 : decode cX1_init 8 = .ok (.newarray .int, 2) := by decide +kernel
theorem dX1_init_10 : decode cX1_init 10 = .ok (.putfield 11, 3) := by decide +kernel
theorem dX1_init_13 : decode cX1_init 13 = .ok (.aload_n 0, 1) := by decide +kernel
theorem dX1_init_14 : decode cX1_init 14 = .ok (.sipush 1764, 3) := by decide +kernel
theorem dX1_init_17 : decode cX1_init 17 = .ok (.newarray .int, 2) := by decide +kernel
theorem dX1_init_19 : decode cX1_init 19 = .ok (.putfield 17, 3) := by decide +kernel
theorem dX1_init_22 : decode cX1_init 22 = .ok (.return_, 1) := by decide +kernel
set_option maxRecDepth 20000 in
theorem ggX1_forget_J7_fill_53178 : GoodIn wsX1_forget wsJ7_fill_53178 := goodIn_r _ [6] (by decide +kernel) (by decide +kernel)
set_option maxRecDepth 20000 in
theorem gX1_forget_J7_fill_53178 : GoodIn wsX1_forget (va_wsS RX1 20 yJ7_fill_53178 wsJ7_fill_53178) := goodIn_app (goodIn_of _ (by decide +kernel)) ggX1_forget_J7_fill_53178
theorem dX1_forget_0 : decode cX1_forget 0 = .ok (.aload_n 0, 1) := by decide +kernel
theorem dX1_forget_1 : decode cX1_forget 1 = .ok (.getfield 11, 3) := by decide +kernel
theorem dX1_forget_4 : decode cX1_forget 4 = .ok (.iconst (-1), 1) := by decide +kernel
theorem dX1_forget_5 : decode cX1_forget 5 = .ok (.invokestatic 20, 3) := by decide +kernel
theorem dX1_forget_8 : decode cX1_forget 8 = .ok (.aload_n 0, 1) := by decide +kernel
theorem dX1_forget_9 : decode cX1_forget 9 = .ok (.iconst 0, 1) := by decide +kernel
theorem dX1_forget_10 : decode cX1_forget 10 = .ok (.putfield 26, 3) := by decide +kernel
theorem dX1_forget_13 : decode cX1_forget 13 = .ok (.return_, 1) := by decide +kernel
theorem dX1_reach_0 : decode cX1_reach 0 = .ok (.iload_n 1, 1) := by decide +kernel
theorem dX1_reach_1 : decode cX1_reach 1 = .ok (.bipush 36, 2) := by decide +kernel
theorem dX1_reach_3 : decode cX1_reach 3 = .ok (.imul, 1) := by decide +kernel
theorem dX1_reach_4 : decode cX1_reach 4 = .ok (.iload_n 2, 1) := by decide +kernel
theorem dX1_reach_5 : decode cX1_reach 5 = .ok (.iadd, 1) := by decide +kernel
theorem dX1_reach_6 : decode cX1_reach 6 = .ok (.istore 4, 2) := by decide +kernel
theorem dX1_reach_8 : decode cX1_reach 8 = .ok (.iload 4, 2) := by decide +kernel
theorem dX1_reach_10 : decode cX1_reach 10 = .ok (.ifCond .lt 36, 3) := by decide +kernel
theorem dX1_reach_13 : decode cX1_reach 13 = .ok (.iload 4, 2) := by decide +kernel
theorem dX1_reach_15 : decode cX1_reach 15 = .ok (.aload_n 0, 1) := by decide +kernel
theorem dX1_reach_16 : decode cX1_reach 16 = .ok (.getfield 11, 3) := by decide +kernel
theorem dX1_reach_19 : decode cX1_reach 19 = .ok (.arraylength, 1) := by decide +kernel
theorem dX1_reach_20 : decode cX1_reach 20 = .ok (.if_icmp .ge 26, 3) := by decide +kernel
theorem dX1_reach_23 : decode cX1_reach 23 = .ok (.aload_n 0, 1) := by decide +kernel
theorem dX1_reach_24 : decode cX1_reach 24 = .ok (.getfield 26, 3) := by decide +kernel
theorem dX1_reach_27 : decode cX1_reach 27 = .ok (.aload_n 0, 1) := by decide +kernel
theorem dX1_reach_28 : decode cX1_reach 28 = .ok (.getfield 17, 3) := by decide +kernel
theorem dX1_reach_31 : decode cX1_reach 31 = .ok (.arraylength, 1) := by decide +kernel
theorem dX1_reach_32 : decode cX1_reach 32 = .ok (.if_icmp .ge 14, 3) := by decide +kernel
theorem dX1_reach_35 : decode cX1_reach 35 = .ok (.aload_n 0, 1) := by decide +kernel
theorem dX1_reach_36 : decode cX1_reach 36 = .ok (.getfield 11, 3) := by decide +kernel
theorem dX1_reach_39 : decode cX1_reach 39 = .ok (.iload 4, 2) := by decide +kernel
theorem dX1_reach_41 : decode cX1_reach 41 = .ok (.iaload, 1) := by decide +kernel
theorem dX1_reach_42 : decode cX1_reach 42 = .ok (.iconst (-1), 1) := by decide +kernel
theorem dX1_reach_43 : decode cX1_reach 43 = .ok (.if_icmp .eq 4, 3) := by decide +kernel
theorem dX1_reach_46 : decode cX1_reach 46 = .ok (.return_, 1) := by decide +kernel
theorem dX1_reach_47 : decode cX1_reach 47 = .ok (.aload_n 0, 1) := by decide +kernel
theorem dX1_reach_48 : decode cX1_reach 48 = .ok (.getfield 11, 3) := by decide +kernel
theorem dX1_reach_51 : decode cX1_reach 51 = .ok (.iload 4, 2) := by decide +kernel
theorem dX1_reach_53 : decode cX1_reach 53 = .ok (.iload_n 3, 1) := by decide +kernel
theorem dX1_reach_54 : decode cX1_reach 54 = .ok (.iastore, 1) := by decide +kernel
theorem dX1_reach_55 : decode cX1_reach 55 = .ok (.aload_n 0, 1) := by decide +kernel
theorem dX1_reach_56 : decode cX1_reach 56 = .ok (.getfield 17, 3) := by decide +kernel
theorem dX1_reach_59 : decode cX1_reach 59 = .ok (.aload_n 0, 1) := by decide +kernel
theorem dX1_reach_60 : decode cX1_reach 60 = .ok (.getfield 26, 3) := by decide +kernel
theorem dX1_reach_63 : decode cX1_reach 63 = .ok (.iload 4, 2) := by decide +kernel
theorem dX1_reach_65 : decode cX1_reach 65 = .ok (.iastore, 1) := by decide +kernel
theorem dX1_reach_66 : decode cX1_reach 66 = .ok (.aload_n 0, 1) := by decide +kernel
theorem dX1_reach_67 : decode cX1_reach 67 = .ok (.dup, 1) := by decide +kernel
theorem dX1_reach_68 : decode cX1_reach 68 = .ok (.getfield 26, 3) := by decide +kernel
theorem dX1_reach_71 : decode cX1_reach 71 = .ok (.iconst 1, 1) := by decide +kernel
theorem dX1_reach_72 : decode cX1_reach 72 = .ok (.iadd, 1) := by decide +kernel
theorem dX1_reach_73 : decode cX1_reach 73 = .ok (.putfield 26, 3) := by decide +kernel
theorem dX1_reach_76 : decode cX1_reach 76 = .ok (.return_, 1) := by decide +kernel
set_option maxRecDepth 20000 in
theorem ggX1_spread_X1_rollsAt : GoodIn wsX1_spread wsX1_rollsAt := goodIn_r _ [7, 8, 55, 56, 57] (by decide +kernel) (by decide +kernel)
set_option maxRecDepth 20000 in
theorem gX1_spread_X1_rollsAt : GoodIn wsX1_spread (wsV RX1 30 RX1 yX1_rollsAt wsX1_rollsAt) := goodIn_app (goodIn_of _ (by decide +kernel)) ggX1_spread_X1_rollsAt
set_option maxRecDepth 20000 in
theorem ggX1_spread_X0_nextCell : GoodIn wsX1_spread wsX0_nextCell := goodIn_r _ [12, 13, 14, 10, 15, 16, 17, 18, 19, 20, 21, 22, 23, 24, 25, 26, 27, 28, 29, 30, 31, 32, 58, 59, 60, 61] (by decide +kernel) (by decide +kernel)
set_option maxRecDepth 20000 in
theorem gX1_spread_X0_nextCell_n34 : GoodIn wsX1_spread (wsX0_nextCell) := ggX1_spread_X0_nextCell
set_option maxRecDepth 20000 in
theorem ggX1_spread_X2_behindRoll : GoodIn wsX1_spread wsX2_behindRoll := goodIn_r _ [35, 36, 37, 34, 38, 39, 40, 41, 42, 43, 44, 45, 46, 47, 48, 49, 50] (by decide +kernel) (by decide +kernel)
set_option maxRecDepth 20000 in
theorem gX1_spread_X2_behindRoll_n39 : GoodIn wsX1_spread (wsX2_behindRoll) := ggX1_spread_X2_behindRoll
set_option maxRecDepth 20000 in
theorem ggX1_spread_X1_reach : GoodIn wsX1_spread wsX1_reach := goodIn_r _ [54, 8, 1, 2, 55, 56, 57] (by decide +kernel) (by decide +kernel)
set_option maxRecDepth 20000 in
theorem gX1_spread_X1_reach : GoodIn wsX1_spread (wsV RX1 42 RX1 yX1_reach wsX1_reach) := goodIn_app (goodIn_of _ (by decide +kernel)) ggX1_spread_X1_reach
theorem dX1_spread_0 : decode cX1_spread 0 = .ok (.iconst 0, 1) := by decide +kernel
theorem dX1_spread_1 : decode cX1_spread 1 = .ok (.istore_n 2, 1) := by decide +kernel
theorem dX1_spread_2 : decode cX1_spread 2 = .ok (.iload_n 2, 1) := by decide +kernel
theorem dX1_spread_3 : decode cX1_spread 3 = .ok (.aload_n 0, 1) := by decide +kernel
theorem dX1_spread_4 : decode cX1_spread 4 = .ok (.getfield 26, 3) := by decide +kernel
theorem dX1_spread_7 : decode cX1_spread 7 = .ok (.if_icmp .ge 95, 3) := by decide +kernel
theorem dX1_spread_10 : decode cX1_spread 10 = .ok (.iload_n 2, 1) := by decide +kernel
theorem dX1_spread_11 : decode cX1_spread 11 = .ok (.aload_n 0, 1) := by decide +kernel
theorem dX1_spread_12 : decode cX1_spread 12 = .ok (.getfield 17, 3) := by decide +kernel
theorem dX1_spread_15 : decode cX1_spread 15 = .ok (.arraylength, 1) := by decide +kernel
theorem dX1_spread_16 : decode cX1_spread 16 = .ok (.if_icmp .ge 86, 3) := by decide +kernel
theorem dX1_spread_19 : decode cX1_spread 19 = .ok (.aload_n 0, 1) := by decide +kernel
theorem dX1_spread_20 : decode cX1_spread 20 = .ok (.getfield 17, 3) := by decide +kernel
theorem dX1_spread_23 : decode cX1_spread 23 = .ok (.iload_n 2, 1) := by decide +kernel
theorem dX1_spread_24 : decode cX1_spread 24 = .ok (.iaload, 1) := by decide +kernel
theorem dX1_spread_25 : decode cX1_spread 25 = .ok (.bipush 36, 2) := by decide +kernel
theorem dX1_spread_27 : decode cX1_spread 27 = .ok (.idiv, 1) := by decide +kernel
theorem dX1_spread_28 : decode cX1_spread 28 = .ok (.istore_n 3, 1) := by decide +kernel
theorem dX1_spread_29 : decode cX1_spread 29 = .ok (.aload_n 0, 1) := by decide +kernel
theorem dX1_spread_30 : decode cX1_spread 30 = .ok (.getfield 17, 3) := by decide +kernel
theorem dX1_spread_33 : decode cX1_spread 33 = .ok (.iload_n 2, 1) := by decide +kernel
theorem dX1_spread_34 : decode cX1_spread 34 = .ok (.iaload, 1) := by decide +kernel
theorem dX1_spread_35 : decode cX1_spread 35 = .ok (.bipush 36, 2) := by decide +kernel
theorem dX1_spread_37 : decode cX1_spread 37 = .ok (.irem, 1) := by decide +kernel
theorem dX1_spread_38 : decode cX1_spread 38 = .ok (.istore 4, 2) := by decide +kernel
theorem dX1_spread_40 : decode cX1_spread 40 = .ok (.aload_n 0, 1) := by decide +kernel
theorem dX1_spread_41 : decode cX1_spread 41 = .ok (.iload_n 3, 1) := by decide +kernel
theorem dX1_spread_42 : decode cX1_spread 42 = .ok (.iload 4, 2) := by decide +kernel
theorem dX1_spread_44 : decode cX1_spread 44 = .ok (.invokevirtual 30, 3) := by decide +kernel
theorem dX1_spread_47 : decode cX1_spread 47 = .ok (.iconst 1, 1) := by decide +kernel
theorem dX1_spread_48 : decode cX1_spread 48 = .ok (.iadd, 1) := by decide +kernel
theorem dX1_spread_49 : decode cX1_spread 49 = .ok (.istore 5, 2) := by decide +kernel
theorem dX1_spread_51 : decode cX1_spread 51 = .ok (.iconst 0, 1) := by decide +kernel
theorem dX1_spread_52 : decode cX1_spread 52 = .ok (.istore 6, 2) := by decide +kernel
theorem dX1_spread_54 : decode cX1_spread 54 = .ok (.iload 6, 2) := by decide +kernel
theorem dX1_spread_56 : decode cX1_spread 56 = .ok (.iconst 4, 1) := by decide +kernel
theorem dX1_spread_57 : decode cX1_spread 57 = .ok (.if_icmp .ge 39, 3) := by decide +kernel
theorem dX1_spread_60 : decode cX1_spread 60 = .ok (.aload_n 1, 1) := by decide +kernel
theorem dX1_spread_61 : decode cX1_spread 61 = .ok (.iload_n 3, 1) := by decide +kernel
theorem dX1_spread_62 : decode cX1_spread 62 = .ok (.iload 6, 2) := by decide +kernel
theorem dX1_spread_64 : decode cX1_spread 64 = .ok (.invokevirtual 34, 3) := by decide +kernel
theorem dX1_spread_67 : decode cX1_spread 67 = .ok (.istore 7, 2) := by decide +kernel
theorem dX1_spread_69 : decode cX1_spread 69 = .ok (.iload 7, 2) := by decide +kernel
theorem dX1_spread_71 : decode cX1_spread 71 = .ok (.iconst (-1), 1) := by decide +kernel
theorem dX1_spread_72 : decode cX1_spread 72 = .ok (.if_icmp .eq 18, 3) := by decide +kernel
theorem dX1_spread_75 : decode cX1_spread 75 = .ok (.aload_n 0, 1) := by decide +kernel
theorem dX1_spread_76 : decode cX1_spread 76 = .ok (.iload 7, 2) := by decide +kernel
theorem dX1_spread_78 : decode cX1_spread 78 = .ok (.iload 4, 2) := by decide +kernel
theorem dX1_spread_80 : decode cX1_spread 80 = .ok (.iload 6, 2) := by decide +kernel
theorem dX1_spread_82 : decode cX1_spread 82 = .ok (.invokestatic 39, 3) := by decide +kernel
theorem dX1_spread_85 : decode cX1_spread 85 = .ok (.iload 5, 2) := by decide +kernel
theorem dX1_spread_87 : decode cX1_spread 87 = .ok (.invokevirtual 42, 3) := by decide +kernel
theorem dX1_spread_90 : decode cX1_spread 90 = .ok (.iinc 6 1, 3) := by decide +kernel
theorem dX1_spread_93 : decode cX1_spread 93 = .ok (.goto (-39), 3) := by decide +kernel
theorem dX1_spread_96 : decode cX1_spread 96 = .ok (.iinc 2 1, 3) := by decide +kernel
theorem dX1_spread_99 : decode cX1_spread 99 = .ok (.goto (-97), 3) := by decide +kernel
theorem dX1_spread_102 : decode cX1_spread 102 = .ok (.return_, 1) := by decide +kernel
theorem dX1_rollsAt_0 : decode cX1_rollsAt 0 = .ok (.iload_n 1, 1) := by decide +kernel
theorem dX1_rollsAt_1 : decode cX1_rollsAt 1 = .ok (.bipush 36, 2) := by decide +kernel
theorem dX1_rollsAt_3 : decode cX1_rollsAt 3 = .ok (.imul, 1) := by decide +kernel
theorem dX1_rollsAt_4 : decode cX1_rollsAt 4 = .ok (.iload_n 2, 1) := by decide +kernel
theorem dX1_rollsAt_5 : decode cX1_rollsAt 5 = .ok (.iadd, 1) := by decide +kernel
theorem dX1_rollsAt_6 : decode cX1_rollsAt 6 = .ok (.istore_n 3, 1) := by decide +kernel
theorem dX1_rollsAt_7 : decode cX1_rollsAt 7 = .ok (.iload_n 3, 1) := by decide +kernel
theorem dX1_rollsAt_8 : decode cX1_rollsAt 8 = .ok (.ifCond .lt 21, 3) := by decide +kernel
theorem dX1_rollsAt_11 : decode cX1_rollsAt 11 = .ok (.iload_n 3, 1) := by decide +kernel
theorem dX1_rollsAt_12 : decode cX1_rollsAt 12 = .ok (.aload_n 0, 1) := by decide +kernel
theorem dX1_rollsAt_13 : decode cX1_rollsAt 13 = .ok (.getfield 11, 3) := by decide +kernel
theorem dX1_rollsAt_16 : decode cX1_rollsAt 16 = .ok (.arraylength, 1) := by decide +kernel
theorem dX1_rollsAt_17 : decode cX1_rollsAt 17 = .ok (.if_icmp .ge 12, 3) := by decide +kernel
theorem dX1_rollsAt_20 : decode cX1_rollsAt 20 = .ok (.aload_n 0, 1) := by decide +kernel
theorem dX1_rollsAt_21 : decode cX1_rollsAt 21 = .ok (.getfield 11, 3) := by decide +kernel
theorem dX1_rollsAt_24 : decode cX1_rollsAt 24 = .ok (.iload_n 3, 1) := by decide +kernel
theorem dX1_rollsAt_25 : decode cX1_rollsAt 25 = .ok (.iaload, 1) := by decide +kernel
theorem dX1_rollsAt_26 : decode cX1_rollsAt 26 = .ok (.goto 4, 3) := by decide +kernel
theorem dX1_rollsAt_29 : decode cX1_rollsAt 29 = .ok (.iconst (-1), 1) := by decide +kernel
theorem dX1_rollsAt_30 : decode cX1_rollsAt 30 = .ok (.ireturn, 1) := by decide +kernel
set_option maxRecDepth 20000 in
theorem ggX1_fewestWithTop_X2_with : GoodIn wsX1_fewestWithTop wsX2_with := goodIn_r _ [3] (by decide +kernel) (by decide +kernel)
set_option maxRecDepth 20000 in
theorem gX1_fewestWithTop_X2_with_n46 : GoodIn wsX1_fewestWithTop (wsX2_with) := ggX1_fewestWithTop_X2_with
set_option maxRecDepth 20000 in
theorem ggX1_fewestWithTop_X1_rollsAt : GoodIn wsX1_fewestWithTop wsX1_rollsAt := goodIn_r _ [8, 9, 17, 18, 19] (by decide +kernel) (by decide +kernel)
set_option maxRecDepth 20000 in
theorem gX1_fewestWithTop_X1_rollsAt : GoodIn wsX1_fewestWithTop (wsV RX1 30 RX1 yX1_rollsAt wsX1_rollsAt) := goodIn_app (goodIn_of _ (by decide +kernel)) ggX1_fewestWithTop_X1_rollsAt
set_option maxRecDepth 20000 in
theorem ggX1_fewestWithTop_X1_fewerOf : GoodIn wsX1_fewestWithTop wsX1_fewerOf := goodIn_r _ [12, 13, 14, 15, 16] (by decide +kernel) (by decide +kernel)
set_option maxRecDepth 20000 in
theorem gX1_fewestWithTop_X1_fewerOf : GoodIn wsX1_fewestWithTop (va_wsS RX1 49 yX1_fewerOf wsX1_fewerOf) := goodIn_app (goodIn_of _ (by decide +kernel)) ggX1_fewestWithTop_X1_fewerOf
theorem dX1_fewestWithTop_0 : decode cX1_fewestWithTop 0 = .ok (.iconst (-1), 1) := by decide +kernel
theorem dX1_fewestWithTop_1 : decode cX1_fewestWithTop 1 = .ok (.istore_n 3, 1) := by decide +kernel
theorem dX1_fewestWithTop_2 : decode cX1_fewestWithTop 2 = .ok (.iconst 1, 1) := by decide +kernel
theorem dX1_fewestWithTop_3 : decode cX1_fewestWithTop 3 = .ok (.istore 4, 2) := by decide +kernel
theorem dX1_fewestWithTop_5 : decode cX1_fewestWithTop 5 = .ok (.iload 4, 2) := by decide +kernel
theorem dX1_fewestWithTop_7 : decode cX1_fewestWithTop 7 = .ok (.bipush 6, 2) := by decide +kernel
theorem dX1_fewestWithTop_9 : decode cX1_fewestWithTop 9 = .ok (.if_icmp .gt 25, 3) := by decide +kernel
theorem dX1_fewestWithTop_12 : decode cX1_fewestWithTop 12 = .ok (.iload_n 3, 1) := by decide +kernel
theorem dX1_fewestWithTop_13 : decode cX1_fewestWithTop 13 = .ok (.aload_n 0, 1) := by decide +kernel
theorem dX1_fewestWithTop_14 : decode cX1_fewestWithTop 14 = .ok (.iload_n 1, 1) := by decide +kernel
theorem dX1_fewestWithTop_15 : decode cX1_fewestWithTop 15 = .ok (.iload_n 2, 1) := by decide +kernel
theorem dX1_fewestWithTop_16 : decode cX1_fewestWithTop 16 = .ok (.iload 4, 2) := by decide +kernel
theorem dX1_fewestWithTop_18 : decode cX1_fewestWithTop 18 = .ok (.invokestatic 46, 3) := by decide +kernel
theorem dX1_fewestWithTop_21 : decode cX1_fewestWithTop 21 = .ok (.invokevirtual 30, 3) := by decide +kernel
theorem dX1_fewestWithTop_24 : decode cX1_fewestWithTop 24 = .ok (.invokestatic 49, 3) := by decide +kernel
theorem dX1_fewestWithTop_27 : decode cX1_fewestWithTop 27 = .ok (.istore_n 3, 1) := by decide +kernel
theorem dX1_fewestWithTop_28 : decode cX1_fewestWithTop 28 = .ok (.iinc 4 1, 3) := by decide +kernel
theorem dX1_fewestWithTop_31 : decode cX1_fewestWithTop 31 = .ok (.goto (-26), 3) := by decide +kernel
theorem dX1_fewestWithTop_34 : decode cX1_fewestWithTop 34 = .ok (.iload_n 3, 1) := by decide +kernel
theorem dX1_fewestWithTop_35 : decode cX1_fewestWithTop 35 = .ok (.ireturn, 1) := by decide +kernel
set_option maxRecDepth 20000 in
theorem ggX1_fewestTo_X1_fewestWithTop : GoodIn wsX1_fewestTo wsX1_fewestWithTop := goodIn_r _ [5, 6, 7, 8, 9, 10, 11, 4, 12, 13, 14, 15, 16, 17, 18, 19, 20, 21, 22, 23] (by decide +kernel) (by decide +kernel)
set_option maxRecDepth 20000 in
theorem gX1_fewestTo_X1_fewestWithTop : GoodIn wsX1_fewestTo (wsV RX1 52 RX1 yX1_fewestWithTop wsX1_fewestWithTop) := goodIn_app (goodIn_of _ (by decide +kernel)) ggX1_fewestTo_X1_fewestWithTop
set_option maxRecDepth 20000 in
theorem ggX1_fewestTo_X1_fewerOf : GoodIn wsX1_fewestTo wsX1_fewerOf := goodIn_r _ [16, 17, 18, 19, 20] (by decide +kernel) (by decide +kernel)
set_option maxRecDepth 20000 in
theorem gX1_fewestTo_X1_fewerOf : GoodIn wsX1_fewestTo (va_wsS RX1 49 yX1_fewerOf wsX1_fewerOf) := goodIn_app (goodIn_of _ (by decide +kernel)) ggX1_fewestTo_X1_fewerOf
theorem dX1_fewestTo_0 : decode cX1_fewestTo 0 = .ok (.iconst (-1), 1) := by decide +kernel
theorem dX1_fewestTo_1 : decode cX1_fewestTo 1 = .ok (.istore_n 2, 1) := by decide +kernel
theorem dX1_fewestTo_2 : decode cX1_fewestTo 2 = .ok (.iconst 1, 1) := by decide +kernel
theorem dX1_fewestTo_3 : decode cX1_fewestTo 3 = .ok (.istore_n 3, 1) := by decide +kernel
theorem dX1_fewestTo_4 : decode cX1_fewestTo 4 = .ok (.iload_n 3, 1) := by decide +kernel
theorem dX1_fewestTo_5 : decode cX1_fewestTo 5 = .ok (.bipush 6, 2) := by decide +kernel
theorem dX1_fewestTo_7 : decode cX1_fewestTo 7 = .ok (.if_icmp .gt 20, 3) := by decide +kernel
theorem dX1_fewestTo_10 : decode cX1_fewestTo 10 = .ok (.iload_n 2, 1) := by decide +kernel
theorem dX1_fewestTo_11 : decode cX1_fewestTo 11 = .ok (.aload_n 0, 1) := by decide +kernel
theorem dX1_fewestTo_12 : decode cX1_fewestTo 12 = .ok (.iload_n 1, 1) := by decide +kernel
theorem dX1_fewestTo_13 : decode cX1_fewestTo 13 = .ok (.iload_n 3, 1) := by decide +kernel
theorem dX1_fewestTo_14 : decode cX1_fewestTo 14 = .ok (.invokevirtual 52, 3) := by decide +kernel
theorem dX1_fewestTo_17 : decode cX1_fewestTo 17 = .ok (.invokestatic 49, 3) := by decide +kernel
theorem dX1_fewestTo_20 : decode cX1_fewestTo 20 = .ok (.istore_n 2, 1) := by decide +kernel
theorem dX1_fewestTo_21 : decode cX1_fewestTo 21 = .ok (.iinc 3 1, 3) := by decide +kernel
theorem dX1_fewestTo_24 : decode cX1_fewestTo 24 = .ok (.goto (-20), 3) := by decide +kernel
theorem dX1_fewestTo_27 : decode cX1_fewestTo 27 = .ok (.iload_n 2, 1) := by decide +kernel
theorem dX1_fewestTo_28 : decode cX1_fewestTo 28 = .ok (.ireturn, 1) := by decide +kernel
set_option maxRecDepth 20000 in
theorem ggX1_countTops_X1_fewestWithTop : GoodIn wsX1_countTops wsX1_fewestWithTop := goodIn_r _ [5, 6, 7, 8, 9, 10, 11, 4, 12, 13, 14, 15, 16, 17, 18, 19, 20, 21, 22, 23] (by decide +kernel) (by decide +kernel)
set_option maxRecDepth 20000 in
theorem gX1_countTops_X1_fewestWithTop : GoodIn wsX1_countTops (wsV RX1 52 RX1 yX1_fewestWithTop wsX1_fewestWithTop) := goodIn_app (goodIn_of _ (by decide +kernel)) ggX1_countTops_X1_fewestWithTop
theorem dX1_countTops_0 : decode cX1_countTops 0 = .ok (.iconst 0, 1) := by decide +kernel
theorem dX1_countTops_1 : decode cX1_countTops 1 = .ok (.istore_n 2, 1) := by decide +kernel
theorem dX1_countTops_2 : decode cX1_countTops 2 = .ok (.iconst 1, 1) := by decide +kernel
theorem dX1_countTops_3 : decode cX1_countTops 3 = .ok (.istore_n 3, 1) := by decide +kernel
theorem dX1_countTops_4 : decode cX1_countTops 4 = .ok (.iload_n 3, 1) := by decide +kernel
theorem dX1_countTops_5 : decode cX1_countTops 5 = .ok (.bipush 6, 2) := by decide +kernel
theorem dX1_countTops_7 : decode cX1_countTops 7 = .ok (.if_icmp .gt 22, 3) := by decide +kernel
theorem dX1_countTops_10 : decode cX1_countTops 10 = .ok (.aload_n 0, 1) := by decide +kernel
theorem dX1_countTops_11 : decode cX1_countTops 11 = .ok (.iload_n 1, 1) := by decide +kernel
theorem dX1_countTops_12 : decode cX1_countTops 12 = .ok (.iload_n 3, 1) := by decide +kernel
theorem dX1_countTops_13 : decode cX1_countTops 13 = .ok (.invokevirtual 52, 3) := by decide +kernel
theorem dX1_countTops_16 : decode cX1_countTops 16 = .ok (.iconst (-1), 1) := by decide +kernel
theorem dX1_countTops_17 : decode cX1_countTops 17 = .ok (.if_icmp .eq 6, 3) := by decide +kernel
theorem dX1_countTops_20 : decode cX1_countTops 20 = .ok (.iinc 2 1, 3) := by decide +kernel
theorem dX1_countTops_23 : decode cX1_countTops 23 = .ok (.iinc 3 1, 3) := by decide +kernel
theorem dX1_countTops_26 : decode cX1_countTops 26 = .ok (.goto (-22), 3) := by decide +kernel
theorem dX1_countTops_29 : decode cX1_countTops 29 = .ok (.iload_n 2, 1) := by decide +kernel
theorem dX1_countTops_30 : decode cX1_countTops 30 = .ok (.ireturn, 1) := by decide +kernel
theorem dX1_fewerOf_0 : decode cX1_fewerOf 0 = .ok (.iload_n 0, 1) := by decide +kernel
theorem dX1_fewerOf_1 : decode cX1_fewerOf 1 = .ok (.iconst (-1), 1) := by decide +kernel
theorem dX1_fewerOf_2 : decode cX1_fewerOf 2 = .ok (.if_icmp .ne 5, 3) := by decide +kernel
theorem dX1_fewerOf_5 : decode cX1_fewerOf 5 = .ok (.iload_n 1, 1) := by decide +kernel
theorem dX1_fewerOf_6 : decode cX1_fewerOf 6 = .ok (.ireturn, 1) := by decide +kernel
theorem dX1_fewerOf_7 : decode cX1_fewerOf 7 = .ok (.iload_n 1, 1) := by decide +kernel
theorem dX1_fewerOf_8 : decode cX1_fewerOf 8 = .ok (.iconst (-1), 1) := by decide +kernel
theorem dX1_fewerOf_9 : decode cX1_fewerOf 9 = .ok (.if_icmp .ne 7, 3) := by decide +kernel
theorem dX1_fewerOf_12 : decode cX1_fewerOf 12 = .ok (.iload_n 0, 1) := by decide +kernel
theorem dX1_fewerOf_13 : decode cX1_fewerOf 13 = .ok (.goto 8, 3) := by decide +kernel
theorem dX1_fewerOf_16 : decode cX1_fewerOf 16 = .ok (.iload_n 0, 1) := by decide +kernel
theorem dX1_fewerOf_17 : decode cX1_fewerOf 17 = .ok (.iload_n 1, 1) := by decide +kernel
theorem dX1_fewerOf_18 : decode cX1_fewerOf 18 = .ok (.invokestatic 55, 3) := by decide +kernel
theorem dX1_fewerOf_21 : decode cX1_fewerOf 21 = .ok (.ireturn, 1) := by decide +kernel
theorem dX2_with_0 : decode cX2_with 0 = .ok (.iload_n 0, 1) := by decide +kernel
theorem dX2_with_1 : decode cX2_with 1 = .ok (.iconst 1, 1) := by decide +kernel
theorem dX2_with_2 : decode cX2_with 2 = .ok (.isub, 1) := by decide +kernel
theorem dX2_with_3 : decode cX2_with 3 = .ok (.bipush 6, 2) := by decide +kernel
theorem dX2_with_5 : decode cX2_with 5 = .ok (.imul, 1) := by decide +kernel
theorem dX2_with_6 : decode cX2_with 6 = .ok (.iload_n 1, 1) := by decide +kernel
theorem dX2_with_7 : decode cX2_with 7 = .ok (.iconst 1, 1) := by decide +kernel
theorem dX2_with_8 : decode cX2_with 8 = .ok (.isub, 1) := by decide +kernel
theorem dX2_with_9 : decode cX2_with 9 = .ok (.iadd, 1) := by decide +kernel
theorem dX2_with_10 : decode cX2_with 10 = .ok (.ireturn, 1) := by decide +kernel
theorem dX2_topOf_0 : decode cX2_topOf 0 = .ok (.iload_n 0, 1) := by decide +kernel
theorem dX2_topOf_1 : decode cX2_topOf 1 = .ok (.bipush 6, 2) := by decide +kernel
theorem dX2_topOf_3 : decode cX2_topOf 3 = .ok (.idiv, 1) := by decide +kernel
theorem dX2_topOf_4 : decode cX2_topOf 4 = .ok (.iconst 1, 1) := by decide +kernel
theorem dX2_topOf_5 : decode cX2_topOf 5 = .ok (.iadd, 1) := by decide +kernel
theorem dX2_topOf_6 : decode cX2_topOf 6 = .ok (.ireturn, 1) := by decide +kernel
theorem dX2_northOf_0 : decode cX2_northOf 0 = .ok (.iload_n 0, 1) := by decide +kernel
theorem dX2_northOf_1 : decode cX2_northOf 1 = .ok (.bipush 6, 2) := by decide +kernel
theorem dX2_northOf_3 : decode cX2_northOf 3 = .ok (.irem, 1) := by decide +kernel
theorem dX2_northOf_4 : decode cX2_northOf 4 = .ok (.iconst 1, 1) := by decide +kernel
theorem dX2_northOf_5 : decode cX2_northOf 5 = .ok (.iadd, 1) := by decide +kernel
theorem dX2_northOf_6 : decode cX2_northOf 6 = .ok (.ireturn, 1) := by decide +kernel
set_option maxRecDepth 20000 in
theorem ggX2_eastOf_X2_topOf : GoodIn wsX2_eastOf wsX2_topOf := goodIn_r _ [4] (by decide +kernel) (by decide +kernel)
set_option maxRecDepth 20000 in
theorem gX2_eastOf_X2_topOf : GoodIn wsX2_eastOf (va_wsS RX2 9 yX2_topOf wsX2_topOf) := goodIn_app (goodIn_of _ (by decide +kernel)) ggX2_eastOf_X2_topOf
set_option maxRecDepth 20000 in
theorem ggX2_eastOf_X2_northOf : GoodIn wsX2_eastOf wsX2_northOf := goodIn_r _ [7] (by decide +kernel) (by decide +kernel)
set_option maxRecDepth 20000 in
theorem gX2_eastOf_X2_northOf : GoodIn wsX2_eastOf (va_wsS RX2 15 yX2_northOf wsX2_northOf) := goodIn_app (goodIn_of _ (by decide +kernel)) ggX2_eastOf_X2_northOf
set_option maxRecDepth 20000 in
theorem ggX2_eastOf_X2_axisOf : GoodIn wsX2_eastOf wsX2_axisOf := goodIn_r _ [10] (by decide +kernel) (by decide +kernel)
set_option maxRecDepth 20000 in
theorem gX2_eastOf_X2_axisOf : GoodIn wsX2_eastOf (va_wsS RX2 18 yX2_axisOf wsX2_axisOf) := goodIn_app (goodIn_of _ (by decide +kernel)) ggX2_eastOf_X2_axisOf
theorem dX2_eastOf_0 : decode cX2_eastOf 0 = .ok (.iload_n 0, 1) := by decide +kernel
theorem dX2_eastOf_1 : decode cX2_eastOf 1 = .ok (.invokestatic 9, 3) := by decide +kernel
theorem dX2_eastOf_4 : decode cX2_eastOf 4 = .ok (.istore_n 1, 1) := by decide +kernel
theorem dX2_eastOf_5 : decode cX2_eastOf 5 = .ok (.iload_n 0, 1) := by decide +kernel
theorem dX2_eastOf_6 : decode cX2_eastOf 6 = .ok (.invokestatic 15, 3) := by decide +kernel
theorem dX2_eastOf_9 : decode cX2_eastOf 9 = .ok (.istore_n 2, 1) := by decide +kernel
theorem dX2_eastOf_10 : decode cX2_eastOf 10 = .ok (.bipush 6, 2) := by decide +kernel
theorem dX2_eastOf_12 : decode cX2_eastOf 12 = .ok (.iload_n 1, 1) := by decide +kernel
theorem dX2_eastOf_13 : decode cX2_eastOf 13 = .ok (.invokestatic 18, 3) := by decide +kernel
theorem dX2_eastOf_16 : decode cX2_eastOf 16 = .ok (.isub, 1) := by decide +kernel
theorem dX2_eastOf_17 : decode cX2_eastOf 17 = .ok (.iload_n 2, 1) := by decide +kernel
theorem dX2_eastOf_18 : decode cX2_eastOf 18 = .ok (.invokestatic 18, 3) := by decide +kernel
theorem dX2_eastOf_21 : decode cX2_eastOf 21 = .ok (.isub, 1) := by decide +kernel
theorem dX2_eastOf_22 : decode cX2_eastOf 22 = .ok (.istore_n 3, 1) := by decide +kernel
theorem dX2_eastOf_23 : decode cX2_eastOf 23 = .ok (.iload_n 2, 1) := by decide +kernel
theorem dX2_eastOf_24 : decode cX2_eastOf 24 = .ok (.invokestatic 18, 3) := by decide +kernel
theorem dX2_eastOf_27 : decode cX2_eastOf 27 = .ok (.iload_n 1, 1) := by decide +kernel
theorem dX2_eastOf_28 : decode cX2_eastOf 28 = .ok (.invokestatic 18, 3) := by decide +kernel
theorem dX2_eastOf_31 : decode cX2_eastOf 31 = .ok (.isub, 1) := by decide +kernel
theorem dX2_eastOf_32 : decode cX2_eastOf 32 = .ok (.iconst 3, 1) := by decide +kernel
theorem dX2_eastOf_33 : decode cX2_eastOf 33 = .ok (.iadd, 1) := by decide +kernel
theorem dX2_eastOf_34 : decode cX2_eastOf 34 = .ok (.iconst 3, 1) := by decide +kernel
theorem dX2_eastOf_35 : decode cX2_eastOf 35 = .ok (.irem, 1) := by decide +kernel
theorem dX2_eastOf_36 : decode cX2_eastOf 36 = .ok (.iconst 1, 1) := by decide +kernel
theorem dX2_eastOf_37 : decode cX2_eastOf 37 = .ok (.if_icmp .ne 7, 3) := by decide +kernel
theorem dX2_eastOf_40 : decode cX2_eastOf 40 = .ok (.iconst 1, 1) := by decide +kernel
theorem dX2_eastOf_41 : decode cX2_eastOf 41 = .ok (.goto 4, 3) := by decide +kernel
theorem dX2_eastOf_44 : decode cX2_eastOf 44 = .ok (.iconst 0, 1) := by decide +kernel
theorem dX2_eastOf_45 : decode cX2_eastOf 45 = .ok (.istore 4, 2) := by decide +kernel
theorem dX2_eastOf_47 : decode cX2_eastOf 47 = .ok (.iload_n 1, 1) := by decide +kernel
theorem dX2_eastOf_48 : decode cX2_eastOf 48 = .ok (.iconst 3, 1) := by decide +kernel
theorem dX2_eastOf_49 : decode cX2_eastOf 49 = .ok (.if_icmp .le 15, 3) := by decide +kernel
theorem dX2_eastOf_52 : decode cX2_eastOf 52 = .ok (.iload 4, 2) := by decide +kernel
theorem dX2_eastOf_54 : decode cX2_eastOf 54 = .ok (.ifCond .ne 7, 3) := by decide +kernel
theorem dX2_eastOf_57 : decode cX2_eastOf 57 = .ok (.iconst 1, 1) := by decide +kernel
theorem dX2_eastOf_58 : decode cX2_eastOf 58 = .ok (.goto 4, 3) := by decide +kernel
theorem dX2_eastOf_61 : decode cX2_eastOf 61 = .ok (.iconst 0, 1) := by decide +kernel
theorem dX2_eastOf_62 : decode cX2_eastOf 62 = .ok (.istore 4, 2) := by decide +kernel
theorem dX2_eastOf_64 : decode cX2_eastOf 64 = .ok (.iload_n 2, 1) := by decide +kernel
theorem dX2_eastOf_65 : decode cX2_eastOf 65 = .ok (.iconst 3, 1) := by decide +kernel
theorem dX2_eastOf_66 : decode cX2_eastOf 66 = .ok (.if_icmp .le 15, 3) := by decide +kernel
theorem dX2_eastOf_69 : decode cX2_eastOf 69 = .ok (.iload 4, 2) := by decide +kernel
theorem dX2_eastOf_71 : decode cX2_eastOf 71 = .ok (.ifCond .ne 7, 3) := by decide +kernel
theorem dX2_eastOf_74 : decode cX2_eastOf 74 = .ok (.iconst 1, 1) := by decide +kernel
theorem dX2_eastOf_75 : decode cX2_eastOf 75 = .ok (.goto 4, 3) := by decide +kernel
theorem dX2_eastOf_78 : decode cX2_eastOf 78 = .ok (.iconst 0, 1) := by decide +kernel
theorem dX2_eastOf_79 : decode cX2_eastOf 79 = .ok (.istore 4, 2) := by decide +kernel
theorem dX2_eastOf_81 : decode cX2_eastOf 81 = .ok (.iload 4, 2) := by decide +kernel
theorem dX2_eastOf_83 : decode cX2_eastOf 83 = .ok (.ifCond .eq 7, 3) := by decide +kernel
theorem dX2_eastOf_86 : decode cX2_eastOf 86 = .ok (.iload_n 3, 1) := by decide +kernel
theorem dX2_eastOf_87 : decode cX2_eastOf 87 = .ok (.goto 7, 3) := by decide +kernel
theorem dX2_eastOf_90 : decode cX2_eastOf 90 = .ok (.bipush 7, 2) := by decide +kernel
theorem dX2_eastOf_92 : decode cX2_eastOf 92 = .ok (.iload_n 3, 1) := by decide +kernel
theorem dX2_eastOf_93 : decode cX2_eastOf 93 = .ok (.isub, 1) := by decide +kernel
theorem dX2_eastOf_94 : decode cX2_eastOf 94 = .ok (.ireturn, 1) := by decide +kernel
theorem dX2_axisOf_0 : decode cX2_axisOf 0 = .ok (.iload_n 0, 1) := by decide +kernel
theorem dX2_axisOf_1 : decode cX2_axisOf 1 = .ok (.iconst 3, 1) := by decide +kernel
theorem dX2_axisOf_2 : decode cX2_axisOf 2 = .ok (.if_icmp .gt 7, 3) := by decide +kernel
theorem dX2_axisOf_5 : decode cX2_axisOf 5 = .ok (.iload_n 0, 1) := by decide +kernel
theorem dX2_axisOf_6 : decode cX2_axisOf 6 = .ok (.goto 7, 3) := by decide +kernel
theorem dX2_axisOf_9 : decode cX2_axisOf 9 = .ok (.bipush 7, 2) := by decide +kernel
theorem dX2_axisOf_11 : decode cX2_axisOf 11 = .ok (.iload_n 0, 1) := by decide +kernel
theorem dX2_axisOf_12 : decode cX2_axisOf 12 = .ok (.isub, 1) := by decide +kernel
theorem dX2_axisOf_13 : decode cX2_axisOf 13 = .ok (.ireturn, 1) := by decide +kernel
set_option maxRecDepth 20000 in
theorem ggX2_faceOn_X2_northOf : GoodIn wsX2_faceOn wsX2_northOf := goodIn_r _ [4] (by decide +kernel) (by decide +kernel)
set_option maxRecDepth 20000 in
theorem gX2_faceOn_X2_northOf : GoodIn wsX2_faceOn (va_wsS RX2 15 yX2_northOf wsX2_northOf) := goodIn_app (goodIn_of _ (by decide +kernel)) ggX2_faceOn_X2_northOf
set_option maxRecDepth 20000 in
theorem ggX2_faceOn_X2_eastOf : GoodIn wsX2_faceOn wsX2_eastOf := goodIn_r _ [7, 8, 9, 3, 10, 1, 2, 4, 11, 12, 13] (by decide +kernel) (by decide +kernel)
set_option maxRecDepth 20000 in
theorem gX2_faceOn_X2_eastOf : GoodIn wsX2_faceOn (va_wsS RX2 21 yX2_eastOf wsX2_eastOf) := goodIn_app (goodIn_of _ (by decide +kernel)) ggX2_faceOn_X2_eastOf
theorem dX2_faceOn_0 : decode cX2_faceOn 0 = .ok (.iload_n 1, 1) := by decide +kernel
theorem dX2_faceOn_1 : decode cX2_faceOn 1 = .ok (.tableswitch 45 0 2 #[27, 32, 37], 27) := by decide +kernel
theorem dX2_faceOn_28 : decode cX2_faceOn 28 = .ok (.iload_n 0, 1) := by decide +kernel
theorem dX2_faceOn_29 : decode cX2_faceOn 29 = .ok (.invokestatic 15, 3) := by decide +kernel
theorem dX2_faceOn_32 : decode cX2_faceOn 32 = .ok (.ireturn, 1) := by decide +kernel
theorem dX2_faceOn_33 : decode cX2_faceOn 33 = .ok (.iload_n 0, 1) := by decide +kernel
theorem dX2_faceOn_34 : decode cX2_faceOn 34 = .ok (.invokestatic 21, 3) := by decide +kernel
theorem dX2_faceOn_37 : decode cX2_faceOn 37 = .ok (.ireturn, 1) := by decide +kernel
theorem dX2_faceOn_38 : decode cX2_faceOn 38 = .ok (.bipush 7, 2) := by decide +kernel
theorem dX2_faceOn_40 : decode cX2_faceOn 40 = .ok (.iload_n 0, 1) := by decide +kernel
theorem dX2_faceOn_41 : decode cX2_faceOn 41 = .ok (.invokestatic 15, 3) := by decide +kernel
theorem dX2_faceOn_44 : decode cX2_faceOn 44 = .ok (.isub, 1) := by decide +kernel
theorem dX2_faceOn_45 : decode cX2_faceOn 45 = .ok (.ireturn, 1) := by decide +kernel
theorem dX2_faceOn_46 : decode cX2_faceOn 46 = .ok (.bipush 7, 2) := by decide +kernel
theorem dX2_faceOn_48 : decode cX2_faceOn 48 = .ok (.iload_n 0, 1) := by decide +kernel
theorem dX2_faceOn_49 : decode cX2_faceOn 49 = .ok (.invokestatic 21, 3) := by decide +kernel
theorem dX2_faceOn_52 : decode cX2_faceOn 52 = .ok (.isub, 1) := by decide +kernel
theorem dX2_faceOn_53 : decode cX2_faceOn 53 = .ok (.ireturn, 1) := by decide +kernel
set_option maxRecDepth 20000 in
theorem ggX2_behindRoll_X2_topOf : GoodIn wsX2_behindRoll wsX2_topOf := goodIn_r _ [4] (by decide +kernel) (by decide +kernel)
set_option maxRecDepth 20000 in
theorem gX2_behindRoll_X2_topOf : GoodIn wsX2_behindRoll (va_wsS RX2 9 yX2_topOf wsX2_topOf) := goodIn_app (goodIn_of _ (by decide +kernel)) ggX2_behindRoll_X2_topOf
set_option maxRecDepth 20000 in
theorem ggX2_behindRoll_X2_northOf : GoodIn wsX2_behindRoll wsX2_northOf := goodIn_r _ [7] (by decide +kernel) (by decide +kernel)
set_option maxRecDepth 20000 in
theorem gX2_behindRoll_X2_northOf : GoodIn wsX2_behindRoll (va_wsS RX2 15 yX2_northOf wsX2_northOf) := goodIn_app (goodIn_of _ (by decide +kernel)) ggX2_behindRoll_X2_northOf
set_option maxRecDepth 20000 in
theorem ggX2_behindRoll_X2_with : GoodIn wsX2_behindRoll wsX2_with := goodIn_r _ [10] (by decide +kernel) (by decide +kernel)
set_option maxRecDepth 20000 in
theorem gX2_behindRoll_X2_with : GoodIn wsX2_behindRoll (va_wsS RX2 24 yX2_with wsX2_with) := goodIn_app (goodIn_of _ (by decide +kernel)) ggX2_behindRoll_X2_with
set_option maxRecDepth 20000 in
theorem ggX2_behindRoll_X2_eastOf : GoodIn wsX2_behindRoll wsX2_eastOf := goodIn_r _ [13, 1, 2, 3, 4, 5, 6, 7, 14, 15, 16] (by decide +kernel) (by decide +kernel)
set_option maxRecDepth 20000 in
theorem gX2_behindRoll_X2_eastOf : GoodIn wsX2_behindRoll (va_wsS RX2 21 yX2_eastOf wsX2_eastOf) := goodIn_app (goodIn_of _ (by decide +kernel)) ggX2_behindRoll_X2_eastOf
theorem dX2_behindRoll_0 : decode cX2_behindRoll 0 = .ok (.iload_n 0, 1) := by decide +kernel
theorem dX2_behindRoll_1 : decode cX2_behindRoll 1 = .ok (.invokestatic 9, 3) := by decide +kernel
theorem dX2_behindRoll_4 : decode cX2_behindRoll 4 = .ok (.istore_n 2, 1) := by decide +kernel
theorem dX2_behindRoll_5 : decode cX2_behindRoll 5 = .ok (.iload_n 0, 1) := by decide +kernel
theorem dX2_behindRoll_6 : decode cX2_behindRoll 6 = .ok (.invokestatic 15, 3) := by decide +kernel
theorem dX2_behindRoll_9 : decode cX2_behindRoll 9 = .ok (.istore_n 3, 1) := by decide +kernel
theorem dX2_behindRoll_10 : decode cX2_behindRoll 10 = .ok (.iload_n 1, 1) := by decide +kernel
theorem dX2_behindRoll_11 : decode cX2_behindRoll 11 = .ok (.tableswitch 55 0 2 #[25, 34, 46], 25) := by decide +kernel
theorem dX2_behindRoll_36 : decode cX2_behindRoll 36 = .ok (.bipush 7, 2) := by decide +kernel
theorem dX2_behindRoll_38 : decode cX2_behindRoll 38 = .ok (.iload_n 3, 1) := by decide +kernel
theorem dX2_behindRoll_39 : decode cX2_behindRoll 39 = .ok (.isub, 1) := by decide +kernel
theorem dX2_behindRoll_40 : decode cX2_behindRoll 40 = .ok (.iload_n 2, 1) := by decide +kernel
theorem dX2_behindRoll_41 : decode cX2_behindRoll 41 = .ok (.invokestatic 24, 3) := by decide +kernel
theorem dX2_behindRoll_44 : decode cX2_behindRoll 44 = .ok (.ireturn, 1) := by decide +kernel
theorem dX2_behindRoll_45 : decode cX2_behindRoll 45 = .ok (.bipush 7, 2) := by decide +kernel
theorem dX2_behindRoll_47 : decode cX2_behindRoll 47 = .ok (.iload_n 0, 1) := by decide +kernel
theorem dX2_behindRoll_48 : decode cX2_behindRoll 48 = .ok (.invokestatic 21, 3) := by decide +kernel
theorem dX2_behindRoll_51 : decode cX2_behindRoll 51 = .ok (.isub, 1) := by decide +kernel
theorem dX2_behindRoll_52 : decode cX2_behindRoll 52 = .ok (.iload_n 3, 1) := by decide +kernel
theorem dX2_behindRoll_53 : decode cX2_behindRoll 53 = .ok (.invokestatic 24, 3) := by decide +kernel
theorem dX2_behindRoll_56 : decode cX2_behindRoll 56 = .ok (.ireturn, 1) := by decide +kernel
theorem dX2_behindRoll_57 : decode cX2_behindRoll 57 = .ok (.iload_n 3, 1) := by decide +kernel
theorem dX2_behindRoll_58 : decode cX2_behindRoll 58 = .ok (.bipush 7, 2) := by decide +kernel
theorem dX2_behindRoll_60 : decode cX2_behindRoll 60 = .ok (.iload_n 2, 1) := by decide +kernel
theorem dX2_behindRoll_61 : decode cX2_behindRoll 61 = .ok (.isub, 1) := by decide +kernel
theorem dX2_behindRoll_62 : decode cX2_behindRoll 62 = .ok (.invokestatic 24, 3) := by decide +kernel
theorem dX2_behindRoll_65 : decode cX2_behindRoll 65 = .ok (.ireturn, 1) := by decide +kernel
theorem dX2_behindRoll_66 : decode cX2_behindRoll 66 = .ok (.iload_n 0, 1) := by decide +kernel
theorem dX2_behindRoll_67 : decode cX2_behindRoll 67 = .ok (.invokestatic 21, 3) := by decide +kernel
theorem dX2_behindRoll_70 : decode cX2_behindRoll 70 = .ok (.iload_n 3, 1) := by decide +kernel
theorem dX2_behindRoll_71 : decode cX2_behindRoll 71 = .ok (.invokestatic 24, 3) := by decide +kernel
theorem dX2_behindRoll_74 : decode cX2_behindRoll 74 = .ok (.ireturn, 1) := by decide +kernel
