set_option maxRecDepth 20000 in
theorem ggX3_init_X0_init : GoodIn wsX3_init wsX0_init := goodIn_r _ [16, 17, 2, 3, 18, 19, 12, 20, 40, 41, 42, 43] (by decide +kernel) (by decide +kernel)
set_option maxRecDepth 20000 in
theorem gX3_init_X0_init_n11 : GoodIn wsX3_init (wsX0_init) := ggX3_init_X0_init
set_option maxRecDepth 20000 in
theorem ggX3_init_X1_init : GoodIn wsX3_init wsX1_init := goodIn_r _ [22, 23, 2, 3, 12, 24, 25, 52, 53, 54] (by decide +kernel) (by decide +kernel)
set_option maxRecDepth 20000 in
theorem gX3_init_X1_init_n18 : GoodIn wsX3_init (wsX1_init) := ggX3_init_X1_init
set_option maxRecDepth 20000 in
theorem ggX3_init_X3_startOn : GoodIn wsX3_init wsX3_startOn := goodIn_r _ [30, 7, 31, 32, 33, 34, 35, 6, 36, 37, 38, 39, 19, 20, 44, 45, 46, 47, 48, 49, 50, 51, 40, 41, 42, 43] (by decide +kernel) (by decide +kernel)
set_option maxRecDepth 20000 in
theorem gX3_init_X3_startOn : GoodIn wsX3_init (wsV RX3 30 RX3 yX3_startOn wsX3_startOn) := goodIn_app (goodIn_of _ (by decide +kernel)) ggX3_init_X3_startOn
theorem dX3_init_0 : decode cX3_init 0 = .ok (.aload_n 0, 1) := by decide +kernel
theorem dX3_init_1 : decode cX3_init 1 = .ok (.invokespecial 3, 3) := by decide +kernel
theorem dX3_init_4 : decode cX3_init 4 = .ok (.aload_n 0, 1) := by decide +kernel
theorem dX3_init_5 : decode cX3_init 5 = .ok (.new 9, 3) := by decide +kernel
theorem dX3_init_8 : decode cX3_init 8 = .ok (.dup, 1) := by decide +kernel
theorem dX3_init_9 : decode cX3_init 9 = .ok (.invokespecial 11, 3) := by decide +kernel
theorem dX3_init_12 : decode cX3_init 12 = .ok (.putfield 12, 3) := by decide +kernel
theorem dX3_init_15 : decode cX3_init 15 = .ok (.aload_n 0, 1) := by decide +kernel
theorem dX3_init_16 : decode cX3_init 16 = .ok (.new 16, 3) := by decide +kernel
theorem dX3_init_19 : decode cX3_init 19 = .ok (.dup, 1) := by decide +kernel
theorem dX3_init_20 : decode cX3_init 20 = .ok (.invokespecial 18, 3) := by decide +kernel
theorem dX3_init_23 : decode cX3_init 23 = .ok (.putfield 19, 3) := by decide +kernel
theorem dX3_init_26 : decode cX3_init 26 = .ok (.aload_n 0, 1) := by decide +kernel
theorem dX3_init_27 : decode cX3_init 27 = .ok (.bipush 7, 2) := by decide +kernel
theorem dX3_init_29 : decode cX3_init 29 = .ok (.newarray .int, 2) := by decide +kernel
theorem dX3_init_31 : decode cX3_init 31 = .ok (.putfield 23, 3) := by decide +kernel
theorem dX3_init_34 : decode cX3_init 34 = .ok (.aload_n 0, 1) := by decide +kernel
theorem dX3_init_35 : decode cX3_init 35 = .ok (.bipush 7, 2) := by decide +kernel
theorem dX3_init_37 : decode cX3_init 37 = .ok (.newarray .int, 2) := by decide +kernel
theorem dX3_init_39 : decode cX3_init 39 = .ok (.putfield 27, 3) := by decide +kernel
theorem dX3_init_42 : decode cX3_init 42 = .ok (.iconst 1, 1) := by decide +kernel
theorem dX3_init_43 : decode cX3_init 43 = .ok (.istore_n 1, 1) := by decide +kernel
theorem dX3_init_44 : decode cX3_init 44 = .ok (.iload_n 1, 1) := by decide +kernel
theorem dX3_init_45 : decode cX3_init 45 = .ok (.bipush 6, 2) := by decide +kernel
theorem dX3_init_47 : decode cX3_init 47 = .ok (.if_icmp .gt 16, 3) := by decide +kernel
theorem dX3_init_50 : decode cX3_init 50 = .ok (.aload_n 0, 1) := by decide +kernel
theorem dX3_init_51 : decode cX3_init 51 = .ok (.getfield 23, 3) := by decide +kernel
theorem dX3_init_54 : decode cX3_init 54 = .ok (.iload_n 1, 1) := by decide +kernel
theorem dX3_init_55 : decode cX3_init 55 = .ok (.iload_n 1, 1) := by decide +kernel
theorem dX3_init_56 : decode cX3_init 56 = .ok (.iastore, 1) := by decide +kernel
theorem dX3_init_57 : decode cX3_init 57 = .ok (.iinc 1 1, 3) := by decide +kernel
theorem dX3_init_60 : decode cX3_init 60 = .ok (.goto (-16), 3) := by decide +kernel
theorem dX3_init_63 : decode cX3_init 63 = .ok (.aload_n 0, 1) := by decide +kernel
theorem dX3_init_64 : decode cX3_init 64 = .ok (.iconst 5, 1) := by decide +kernel
theorem dX3_init_65 : decode cX3_init 65 = .ok (.iconst 5, 1) := by decide +kernel
theorem dX3_init_66 : decode cX3_init 66 = .ok (.invokevirtual 30, 3) := by decide +kernel
theorem dX3_init_69 : decode cX3_init 69 = .ok (.return_, 1) := by decide +kernel
set_option maxRecDepth 20000 in
theorem ggX3_newBoard_X3_isSide : GoodIn wsX3_newBoard wsX3_isSide := goodIn_r _ [6] (by decide +kernel) (by decide +kernel)
set_option maxRecDepth 20000 in
theorem gX3_newBoard_X3_isSide : GoodIn wsX3_newBoard (va_wsS RX3 34 yX3_isSide wsX3_isSide) := goodIn_app (goodIn_of _ (by decide +kernel)) ggX3_newBoard_X3_isSide
set_option maxRecDepth 20000 in
theorem ggX3_newBoard_X3_startOn : GoodIn wsX3_newBoard wsX3_startOn := goodIn_r _ [10, 11, 12, 13, 14, 15, 16, 17, 18, 19, 20, 21, 22, 23, 24, 25, 26, 27, 28, 29, 30, 31, 32, 33, 34, 35] (by decide +kernel) (by decide +kernel)
set_option maxRecDepth 20000 in
theorem gX3_newBoard_X3_startOn : GoodIn wsX3_newBoard (wsV RX3 30 RX3 yX3_startOn wsX3_startOn) := goodIn_app (goodIn_of _ (by decide +kernel)) ggX3_newBoard_X3_startOn
theorem dX3_newBoard_0 : decode cX3_newBoard 0 = .ok (.iload_n 1, 1) := by decide +kernel
theorem dX3_newBoard_1 : decode cX3_newBoard 1 = .ok (.invokestatic 34, 3) := by decide +kernel
theorem dX3_newBoard_4 : decode cX3_newBoard 4 = .ok (.ifCond .eq 10, 3) := by decide +kernel
theorem dX3_newBoard_7 : decode cX3_newBoard 7 = .ok (.iload_n 2, 1) := by decide +kernel
theorem dX3_newBoard_8 : decode cX3_newBoard 8 = .ok (.invokestatic 34, 3) := by decide +kernel
theorem dX3_newBoard_11 : decode cX3_newBoard 11 = .ok (.ifCond .ne 13, 3) := by decide +kernel
theorem dX3_newBoard_14 : decode cX3_newBoard 14 = .ok (.new 38, 3) := by decide +kernel
theorem dX3_newBoard_17 : decode cX3_newBoard 17 = .ok (.dup, 1) := by decide +kernel
theorem dX3_newBoard_18 : decode cX3_newBoard 18 = .ok (.ldc 40, 2) := by decide +kernel
theorem dX3_newBoard_20 : decode cX3_newBoard 20 = .ok (.invokespecial 42, 3) := by decide +kernel
theorem dX3_newBoard_23 : decode cX3_newBoard 23 = .ok (.athrow, 1) := by decide +kernel
theorem dX3_newBoard_24 : decode cX3_newBoard 24 = .ok (.aload_n 0, 1) := by decide +kernel
theorem dX3_newBoard_25 : decode cX3_newBoard 25 = .ok (.iload_n 1, 1) := by decide +kernel
theorem dX3_newBoard_26 : decode cX3_newBoard 26 = .ok (.iload_n 2, 1) := by decide +kernel
theorem dX3_newBoard_27 : decode cX3_newBoard 27 = .ok (.invokevirtual 30, 3) := by decide +kernel
theorem dX3_newBoard_30 : decode cX3_newBoard 30 = .ok (.iload_n 1, 1) := by decide +kernel
theorem dX3_newBoard_31 : decode cX3_newBoard 31 = .ok (.iload_n 2, 1) := by decide +kernel
theorem dX3_newBoard_32 : decode cX3_newBoard 32 = .ok (.imul, 1) := by decide +kernel
theorem dX3_newBoard_33 : decode cX3_newBoard 33 = .ok (.ireturn, 1) := by decide +kernel
set_option maxRecDepth 20000 in
theorem ggX3_turnWall_X3_checkCell : GoodIn wsX3_turnWall wsX3_checkCell := goodIn_ca (goodIn_r _ [9, 10, 11, 4, 12, 13, 14, 15, 16, 17, 24, 25, 26, 27, 28, 29, 30, 31, 32, 33, 34, 35] (by decide +kernel) (by decide +kernel)) (goodIn_sub (fun _ h => List.mem_cons_of_mem _ (List.mem_append_right _ h)) (by decide +kernel))
set_option maxRecDepth 20000 in
theorem gX3_turnWall_X3_checkCell : GoodIn wsX3_turnWall (wsV RX3 45 RX3 yX3_checkCell wsX3_checkCell) := goodIn_app (goodIn_of _ (by decide +kernel)) ggX3_turnWall_X3_checkCell
set_option maxRecDepth 20000 in
theorem ggX3_turnWall_X0_cellAt : GoodIn wsX3_turnWall wsX0_cellAt := goodIn_r _ [19] (by decide +kernel) (by decide +kernel)
set_option maxRecDepth 20000 in
theorem gX3_turnWall_X0_cellAt_n48 : GoodIn wsX3_turnWall (wsX0_cellAt) := ggX3_turnWall_X0_cellAt
set_option maxRecDepth 20000 in
theorem ggX3_turnWall_X0_turnOver : GoodIn wsX3_turnWall wsX0_turnOver := goodIn_r _ [22, 23, 32, 33, 34, 35] (by decide +kernel) (by decide +kernel)
set_option maxRecDepth 20000 in
theorem gX3_turnWall_X0_turnOver_n61 : GoodIn wsX3_turnWall (wsX0_turnOver) := ggX3_turnWall_X0_turnOver
theorem dX3_turnWall_0 : decode cX3_turnWall 0 = .ok (.aload_n 0, 1) := by decide +kernel
theorem dX3_turnWall_1 : decode cX3_turnWall 1 = .ok (.iload_n 1, 1) := by decide +kernel
theorem dX3_turnWall_2 : decode cX3_turnWall 2 = .ok (.iload_n 2, 1) := by decide +kernel
theorem dX3_turnWall_3 : decode cX3_turnWall 3 = .ok (.invokevirtual 45, 3) := by decide +kernel
theorem dX3_turnWall_6 : decode cX3_turnWall 6 = .ok (.iload_n 1, 1) := by decide +kernel
theorem dX3_turnWall_7 : decode cX3_turnWall 7 = .ok (.iload_n 2, 1) := by decide +kernel
theorem dX3_turnWall_8 : decode cX3_turnWall 8 = .ok (.invokestatic 48, 3) := by decide +kernel
theorem dX3_turnWall_11 : decode cX3_turnWall 11 = .ok (.istore_n 3, 1) := by decide +kernel
theorem dX3_turnWall_12 : decode cX3_turnWall 12 = .ok (.iload_n 3, 1) := by decide +kernel
theorem dX3_turnWall_13 : decode cX3_turnWall 13 = .ok (.aload_n 0, 1) := by decide +kernel
theorem dX3_turnWall_14 : decode cX3_turnWall 14 = .ok (.getfield 52, 3) := by decide +kernel
theorem dX3_turnWall_17 : decode cX3_turnWall 17 = .ok (.if_icmp .ne 13, 3) := by decide +kernel
theorem dX3_turnWall_20 : decode cX3_turnWall 20 = .ok (.new 56, 3) := by decide +kernel
theorem dX3_turnWall_23 : decode cX3_turnWall 23 = .ok (.dup, 1) := by decide +kernel
theorem dX3_turnWall_24 : decode cX3_turnWall 24 = .ok (.ldc 58, 2) := by decide +kernel
theorem dX3_turnWall_26 : decode cX3_turnWall 26 = .ok (.invokespecial 60, 3) := by decide +kernel
theorem dX3_turnWall_29 : decode cX3_turnWall 29 = .ok (.athrow, 1) := by decide +kernel
theorem dX3_turnWall_30 : decode cX3_turnWall 30 = .ok (.aload_n 0, 1) := by decide +kernel
theorem dX3_turnWall_31 : decode cX3_turnWall 31 = .ok (.getfield 12, 3) := by decide +kernel
theorem dX3_turnWall_34 : decode cX3_turnWall 34 = .ok (.iload_n 3, 1) := by decide +kernel
theorem dX3_turnWall_35 : decode cX3_turnWall 35 = .ok (.invokevirtual 61, 3) := by decide +kernel
theorem dX3_turnWall_38 : decode cX3_turnWall 38 = .ok (.ireturn, 1) := by decide +kernel
set_option maxRecDepth 20000 in
theorem ggX3_setColour_X3_checkFace : GoodIn wsX3_setColour wsX3_checkFace := goodIn_ca (goodIn_r _ [7, 8, 9, 10, 11, 6, 12] (by decide +kernel) (by decide +kernel)) (goodIn_sub (fun _ h => List.mem_cons_of_mem _ (List.mem_append_right _ h)) (by decide +kernel))
set_option maxRecDepth 20000 in
theorem gX3_setColour_X3_checkFace : GoodIn wsX3_setColour (va_wsS RX3 64 yX3_checkFace wsX3_checkFace) := goodIn_app (goodIn_of _ (by decide +kernel)) ggX3_setColour_X3_checkFace
theorem dX3_setColour_0 : decode cX3_setColour 0 = .ok (.iload_n 1, 1) := by decide +kernel
theorem dX3_setColour_1 : decode cX3_setColour 1 = .ok (.invokestatic 64, 3) := by decide +kernel
theorem dX3_setColour_4 : decode cX3_setColour 4 = .ok (.iload_n 2, 1) := by decide +kernel
theorem dX3_setColour_5 : decode cX3_setColour 5 = .ok (.iconst 1, 1) := by decide +kernel
theorem dX3_setColour_6 : decode cX3_setColour 6 = .ok (.if_icmp .lt 9, 3) := by decide +kernel
theorem dX3_setColour_9 : decode cX3_setColour 9 = .ok (.iload_n 2, 1) := by decide +kernel
theorem dX3_setColour_10 : decode cX3_setColour 10 = .ok (.bipush 9, 2) := by decide +kernel
theorem dX3_setColour_12 : decode cX3_setColour 12 = .ok (.if_icmp .le 13, 3) := by decide +kernel
theorem dX3_setColour_15 : decode cX3_setColour 15 = .ok (.new 38, 3) := by decide +kernel
theorem dX3_setColour_18 : decode cX3_setColour 18 = .ok (.dup, 1) := by decide +kernel
theorem dX3_setColour_19 : decode cX3_setColour 19 = .ok (.ldc 68, 2) := by decide +kernel
theorem dX3_setColour_21 : decode cX3_setColour 21 = .ok (.invokespecial 42, 3) := by decide +kernel
theorem dX3_setColour_24 : decode cX3_setColour 24 = .ok (.athrow, 1) := by decide +kernel
theorem dX3_setColour_25 : decode cX3_setColour 25 = .ok (.aload_n 0, 1) := by decide +kernel
theorem dX3_setColour_26 : decode cX3_setColour 26 = .ok (.getfield 23, 3) := by decide +kernel
theorem dX3_setColour_29 : decode cX3_setColour 29 = .ok (.iload_n 1, 1) := by decide +kernel
theorem dX3_setColour_30 : decode cX3_setColour 30 = .ok (.iaload, 1) := by decide +kernel
theorem dX3_setColour_31 : decode cX3_setColour 31 = .ok (.istore_n 3, 1) := by decide +kernel
theorem dX3_setColour_32 : decode cX3_setColour 32 = .ok (.aload_n 0, 1) := by decide +kernel
theorem dX3_setColour_33 : decode cX3_setColour 33 = .ok (.getfield 23, 3) := by decide +kernel
theorem dX3_setColour_36 : decode cX3_setColour 36 = .ok (.iload_n 1, 1) := by decide +kernel
theorem dX3_setColour_37 : decode cX3_setColour 37 = .ok (.iload_n 2, 1) := by decide +kernel
theorem dX3_setColour_38 : decode cX3_setColour 38 = .ok (.iastore, 1) := by decide +kernel
theorem dX3_setColour_39 : decode cX3_setColour 39 = .ok (.iload_n 3, 1) := by decide +kernel
theorem dX3_setColour_40 : decode cX3_setColour 40 = .ok (.ireturn, 1) := by decide +kernel
set_option maxRecDepth 20000 in
theorem ggX3_addPaint_X3_checkFace : GoodIn wsX3_addPaint wsX3_checkFace := goodIn_ca (goodIn_r _ [11, 12, 13, 14, 15, 10, 16] (by decide +kernel) (by decide +kernel)) (goodIn_sub (fun _ h => List.mem_cons_of_mem _ (List.mem_append_right _ h)) (by decide +kernel))
set_option maxRecDepth 20000 in
theorem gX3_addPaint_X3_checkFace : GoodIn wsX3_addPaint (va_wsS RX3 64 yX3_checkFace wsX3_checkFace) := goodIn_app (goodIn_of _ (by decide +kernel)) ggX3_addPaint_X3_checkFace
theorem dX3_addPaint_0 : decode cX3_addPaint 0 = .ok (.iload_n 1, 1) := by decide +kernel
theorem dX3_addPaint_1 : decode cX3_addPaint 1 = .ok (.invokestatic 64, 3) := by decide +kernel
theorem dX3_addPaint_4 : decode cX3_addPaint 4 = .ok (.iload_n 2, 1) := by decide +kernel
theorem dX3_addPaint_5 : decode cX3_addPaint 5 = .ok (.iconst 1, 1) := by decide +kernel
theorem dX3_addPaint_6 : decode cX3_addPaint 6 = .ok (.if_icmp .lt 9, 3) := by decide +kernel
theorem dX3_addPaint_9 : decode cX3_addPaint 9 = .ok (.iload_n 2, 1) := by decide +kernel
theorem dX3_addPaint_10 : decode cX3_addPaint 10 = .ok (.bipush 20, 2) := by decide +kernel
theorem dX3_addPaint_12 : decode cX3_addPaint 12 = .ok (.if_icmp .le 13, 3) := by decide +kernel
theorem dX3_addPaint_15 : decode cX3_addPaint 15 = .ok (.new 38, 3) := by decide +kernel
theorem dX3_addPaint_18 : decode cX3_addPaint 18 = .ok (.dup, 1) := by decide +kernel
theorem dX3_addPaint_19 : decode cX3_addPaint 19 = .ok (.ldc 70, 2) := by decide +kernel
theorem dX3_addPaint_21 : decode cX3_addPaint 21 = .ok (.invokespecial 42, 3) := by decide +kernel
theorem dX3_addPaint_24 : decode cX3_addPaint 24 = .ok (.athrow, 1) := by decide +kernel
theorem dX3_addPaint_25 : decode cX3_addPaint 25 = .ok (.aload_n 0, 1) := by decide +kernel
theorem dX3_addPaint_26 : decode cX3_addPaint 26 = .ok (.getfield 27, 3) := by decide +kernel
theorem dX3_addPaint_29 : decode cX3_addPaint 29 = .ok (.iload_n 1, 1) := by decide +kernel
theorem dX3_addPaint_30 : decode cX3_addPaint 30 = .ok (.bipush 20, 2) := by decide +kernel
theorem dX3_addPaint_32 : decode cX3_addPaint 32 = .ok (.aload_n 0, 1) := by decide +kernel
theorem dX3_addPaint_33 : decode cX3_addPaint 33 = .ok (.getfield 27, 3) := by decide +kernel
theorem dX3_addPaint_36 : decode cX3_addPaint 36 = .ok (.iload_n 1, 1) := by decide +kernel
theorem dX3_addPaint_37 : decode cX3_addPaint 37 = .ok (.iaload, 1) := by decide +kernel
theorem dX3_addPaint_38 : decode cX3_addPaint 38 = .ok (.iload_n 2, 1) := by decide +kernel
theorem dX3_addPaint_39 : decode cX3_addPaint 39 = .ok (.iadd, 1) := by decide +kernel
theorem dX3_addPaint_40 : decode cX3_addPaint 40 = .ok (.invokestatic 72, 3) := by decide +kernel
theorem dX3_addPaint_43 : decode cX3_addPaint 43 = .ok (.iastore, 1) := by decide +kernel
theorem dX3_addPaint_44 : decode cX3_addPaint 44 = .ok (.aload_n 0, 1) := by decide +kernel
theorem dX3_addPaint_45 : decode cX3_addPaint 45 = .ok (.getfield 27, 3) := by decide +kernel
theorem dX3_addPaint_48 : decode cX3_addPaint 48 = .ok (.iload_n 1, 1) := by decide +kernel
theorem dX3_addPaint_49 : decode cX3_addPaint 49 = .ok (.iaload, 1) := by decide +kernel
theorem dX3_addPaint_50 : decode cX3_addPaint 50 = .ok (.ireturn, 1) := by decide +kernel
set_option maxRecDepth 20000 in
theorem ggX3_put_X3_checkCell : GoodIn wsX3_put wsX3_checkCell := goodIn_ca (goodIn_r _ [14, 15, 16, 3, 17, 18, 19, 20, 21, 22, 43, 44, 45, 46, 47, 48, 49, 50, 51, 52, 53, 54] (by decide +kernel) (by decide +kernel)) (goodIn_sub (fun _ h => List.mem_cons_of_mem _ (List.mem_append_right _ h)) (by decide +kernel))
set_option maxRecDepth 20000 in
theorem gX3_put_X3_checkCell : GoodIn wsX3_put (wsV RX3 45 RX3 yX3_checkCell wsX3_checkCell) := goodIn_app (goodIn_of _ (by decide +kernel)) ggX3_put_X3_checkCell
set_option maxRecDepth 20000 in
theorem ggX3_put_X0_isFree : GoodIn wsX3_put wsX0_isFree := goodIn_r _ [25, 26, 27, 17, 19, 18, 20, 21, 22, 28, 29, 30, 51, 52, 53, 54] (by decide +kernel) (by decide +kernel)
set_option maxRecDepth 20000 in
theorem gX3_put_X0_isFree_n77 : GoodIn wsX3_put (wsX0_isFree) := ggX3_put_X0_isFree
set_option maxRecDepth 20000 in
theorem ggX3_put_X3_column : GoodIn wsX3_put wsX3_column := goodIn_r _ [34, 8, 35, 18, 36, 43, 44, 45, 46, 47, 48, 49, 50] (by decide +kernel) (by decide +kernel)
set_option maxRecDepth 20000 in
theorem gX3_put_X3_column : GoodIn wsX3_put (wsV RX3 83 RX3 yX3_column wsX3_column) := goodIn_app (goodIn_of _ (by decide +kernel)) ggX3_put_X3_column
set_option maxRecDepth 20000 in
theorem ggX3_put_X3_row : GoodIn wsX3_put wsX3_row := goodIn_r _ [40, 8, 41, 18, 42, 43, 44, 45, 46, 47, 48, 49, 50] (by decide +kernel) (by decide +kernel)
set_option maxRecDepth 20000 in
theorem gX3_put_X3_row : GoodIn wsX3_put (wsV RX3 91 RX3 yX3_row wsX3_row) := goodIn_app (goodIn_of _ (by decide +kernel)) ggX3_put_X3_row
set_option maxRecDepth 20000 in
theorem ggX3_put_X0_cellAt : GoodIn wsX3_put wsX0_cellAt := goodIn_r _ [30] (by decide +kernel) (by decide +kernel)
set_option maxRecDepth 20000 in
theorem gX3_put_X0_cellAt_n48 : GoodIn wsX3_put (wsX0_cellAt) := ggX3_put_X0_cellAt
theorem dX3_put_0 : decode cX3_put 0 = .ok (.aload_n 0, 1) := by decide +kernel
theorem dX3_put_1 : decode cX3_put 1 = .ok (.iload_n 1, 1) := by decide +kernel
theorem dX3_put_2 : decode cX3_put 2 = .ok (.iload_n 2, 1) := by decide +kernel
theorem dX3_put_3 : decode cX3_put 3 = .ok (.invokevirtual 45, 3) := by decide +kernel
theorem dX3_put_6 : decode cX3_put 6 = .ok (.aload_n 0, 1) := by decide +kernel
theorem dX3_put_7 : decode cX3_put 7 = .ok (.getfield 12, 3) := by decide +kernel
theorem dX3_put_10 : decode cX3_put 10 = .ok (.iload_n 1, 1) := by decide +kernel
theorem dX3_put_11 : decode cX3_put 11 = .ok (.iload_n 2, 1) := by decide +kernel
theorem dX3_put_12 : decode cX3_put 12 = .ok (.invokevirtual 77, 3) := by decide +kernel
theorem dX3_put_15 : decode cX3_put 15 = .ok (.ifCond .ne 13, 3) := by decide +kernel
theorem dX3_put_18 : decode cX3_put 18 = .ok (.new 56, 3) := by decide +kernel
theorem dX3_put_21 : decode cX3_put 21 = .ok (.dup, 1) := by decide +kernel
theorem dX3_put_22 : decode cX3_put 22 = .ok (.ldc 81, 2) := by decide +kernel
theorem dX3_put_24 : decode cX3_put 24 = .ok (.invokespecial 60, 3) := by decide +kernel
theorem dX3_put_27 : decode cX3_put 27 = .ok (.athrow, 1) := by decide +kernel
theorem dX3_put_28 : decode cX3_put 28 = .ok (.iload_n 1, 1) := by decide +kernel
theorem dX3_put_29 : decode cX3_put 29 = .ok (.aload_n 0, 1) := by decide +kernel
theorem dX3_put_30 : decode cX3_put 30 = .ok (.invokevirtual 83, 3) := by decide +kernel
theorem dX3_put_33 : decode cX3_put 33 = .ok (.isub, 1) := by decide +kernel
theorem dX3_put_34 : decode cX3_put 34 = .ok (.invokestatic 87, 3) := by decide +kernel
theorem dX3_put_37 : decode cX3_put 37 = .ok (.iload_n 2, 1) := by decide +kernel
theorem dX3_put_38 : decode cX3_put 38 = .ok (.aload_n 0, 1) := by decide +kernel
theorem dX3_put_39 : decode cX3_put 39 = .ok (.invokevirtual 91, 3) := by decide +kernel
theorem dX3_put_42 : decode cX3_put 42 = .ok (.isub, 1) := by decide +kernel
theorem dX3_put_43 : decode cX3_put 43 = .ok (.invokestatic 87, 3) := by decide +kernel
theorem dX3_put_46 : decode cX3_put 46 = .ok (.iadd, 1) := by decide +kernel
theorem dX3_put_47 : decode cX3_put 47 = .ok (.istore_n 3, 1) := by decide +kernel
theorem dX3_put_48 : decode cX3_put 48 = .ok (.aload_n 0, 1) := by decide +kernel
theorem dX3_put_49 : decode cX3_put 49 = .ok (.iload_n 1, 1) := by decide +kernel
theorem dX3_put_50 : decode cX3_put 50 = .ok (.iload_n 2, 1) := by decide +kernel
theorem dX3_put_51 : decode cX3_put 51 = .ok (.invokestatic 48, 3) := by decide +kernel
theorem dX3_put_54 : decode cX3_put 54 = .ok (.putfield 52, 3) := by decide +kernel
theorem dX3_put_57 : decode cX3_put 57 = .ok (.aload_n 0, 1) := by decide +kernel
theorem dX3_put_58 : decode cX3_put 58 = .ok (.iconst 1, 1) := by decide +kernel
theorem dX3_put_59 : decode cX3_put 59 = .ok (.putfield 96, 3) := by decide +kernel
theorem dX3_put_62 : decode cX3_put 62 = .ok (.iload_n 3, 1) := by decide +kernel
theorem dX3_put_63 : decode cX3_put 63 = .ok (.ireturn, 1) := by decide +kernel
set_option maxRecDepth 20000 in
theorem ggX3_roll_X3_checkDirection : GoodIn wsX3_roll wsX3_checkDirection := goodIn_ca (goodIn_r _ [6, 7, 8] (by decide +kernel) (by decide +kernel)) (goodIn_sub (fun _ h => List.mem_cons_of_mem _ (List.mem_append_right _ h)) (by decide +kernel))
set_option maxRecDepth 20000 in
theorem gX3_roll_X3_checkDirection : GoodIn wsX3_roll (va_wsS RX3 99 yX3_checkDirection wsX3_checkDirection) := goodIn_app (goodIn_of _ (by decide +kernel)) ggX3_roll_X3_checkDirection
set_option maxRecDepth 20000 in
theorem ggX3_roll_X3_rollOnce : GoodIn wsX3_roll wsX3_rollOnce := goodIn_r _ [12, 13, 14, 15, 16, 17, 18, 19, 20, 21, 22, 23, 24, 25, 26, 27, 28, 29, 30, 31, 32, 33, 34, 35, 36, 37, 38, 39, 40, 41, 42, 43, 44, 45, 46, 47, 48, 49, 50, 51, 52, 53, 54, 55, 56, 57, 58, 59, 60, 61, 5, 62, 63, 64, 65, 66, 67, 68, 69, 70, 71, 72, 73, 74, 75, 76, 77, 78, 79, 80, 81, 82, 83, 84, 85, 86, 87, 88, 89, 90, 91, 92] (by decide +kernel) (by decide +kernel)
set_option maxRecDepth 20000 in
theorem gX3_roll_X3_rollOnce : GoodIn wsX3_roll (wsV RX3 102 RX3 yX3_rollOnce wsX3_rollOnce) := goodIn_app (goodIn_of _ (by decide +kernel)) ggX3_roll_X3_rollOnce
set_option maxRecDepth 20000 in
theorem ggX3_roll_X3_bottom : GoodIn wsX3_roll wsX3_bottom := goodIn_r _ [69, 70, 71, 72, 5, 73, 15, 45, 42, 46, 81, 82, 83, 84, 85, 86, 87, 88] (by decide +kernel) (by decide +kernel)
set_option maxRecDepth 20000 in
theorem gX3_roll_X3_bottom : GoodIn wsX3_roll (wsV RX3 107 RX3 yX3_bottom wsX3_bottom) := goodIn_app (goodIn_of _ (by decide +kernel)) ggX3_roll_X3_bottom
theorem dX3_roll_0 : decode cX3_roll 0 = .ok (.iload_n 1, 1) := by decide +kernel
theorem dX3_roll_1 : decode cX3_roll 1 = .ok (.invokestatic 99, 3) := by decide +kernel
theorem dX3_roll_4 : decode cX3_roll 4 = .ok (.aload_n 0, 1) := by decide +kernel
theorem dX3_roll_5 : decode cX3_roll 5 = .ok (.iload_n 1, 1) := by decide +kernel
theorem dX3_roll_6 : decode cX3_roll 6 = .ok (.invokevirtual 102, 3) := by decide +kernel
theorem dX3_roll_9 : decode cX3_roll 9 = .ok (.ifCond .ne 13, 3) := by decide +kernel
theorem dX3_roll_12 : decode cX3_roll 12 = .ok (.new 56, 3) := by decide +kernel
theorem dX3_roll_15 : decode cX3_roll 15 = .ok (.dup, 1) := by decide +kernel
theorem dX3_roll_16 : decode cX3_roll 16 = .ok (.ldc 105, 2) := by decide +kernel
theorem dX3_roll_18 : decode cX3_roll 18 = .ok (.invokespecial 60, 3) := by decide +kernel
theorem dX3_roll_21 : decode cX3_roll 21 = .ok (.athrow, 1) := by decide +kernel
theorem dX3_roll_22 : decode cX3_roll 22 = .ok (.aload_n 0, 1) := by decide +kernel
theorem dX3_roll_23 : decode cX3_roll 23 = .ok (.invokevirtual 107, 3) := by decide +kernel
theorem dX3_roll_26 : decode cX3_roll 26 = .ok (.ireturn, 1) := by decide +kernel
set_option maxRecDepth 20000 in
theorem ggX3_rollOn_X3_checkDirection : GoodIn wsX3_rollOn wsX3_checkDirection := goodIn_ca (goodIn_r _ [6, 7, 8] (by decide +kernel) (by decide +kernel)) (goodIn_sub (fun _ h => List.mem_cons_of_mem _ (List.mem_append_right _ h)) (by decide +kernel))
set_option maxRecDepth 20000 in
theorem gX3_rollOn_X3_checkDirection : GoodIn wsX3_rollOn (va_wsS RX3 99 yX3_checkDirection wsX3_checkDirection) := goodIn_app (goodIn_of _ (by decide +kernel)) ggX3_rollOn_X3_checkDirection
set_option maxRecDepth 20000 in
theorem ggX3_rollOn_X3_rollOnce : GoodIn wsX3_rollOn wsX3_rollOnce := goodIn_r _ [12, 13, 14, 15, 16, 17, 18, 19, 20, 21, 22, 23, 24, 25, 26, 27, 28, 29, 30, 31, 32, 33, 34, 35, 36, 37, 38, 39, 40, 41, 42, 43, 44, 45, 46, 47, 48, 49, 50, 51, 52, 53, 54, 55, 56, 57, 58, 59, 60, 61, 5, 62, 63, 64, 65, 66, 67, 68, 69, 70, 71, 72, 73, 74, 75, 76, 77, 78, 79, 80, 81, 82, 83, 84, 85, 86, 87, 88, 89, 90, 91, 92] (by decide +kernel) (by decide +kernel)
set_option maxRecDepth 20000 in
theorem gX3_rollOn_X3_rollOnce : GoodIn wsX3_rollOn (wsV RX3 102 RX3 yX3_rollOnce wsX3_rollOnce) := goodIn_app (goodIn_of _ (by decide +kernel)) ggX3_rollOn_X3_rollOnce
theorem dX3_rollOn_0 : decode cX3_rollOn 0 = .ok (.iload_n 1, 1) := by decide +kernel
theorem dX3_rollOn_1 : decode cX3_rollOn 1 = .ok (.invokestatic 99, 3) := by decide +kernel
theorem dX3_rollOn_4 : decode cX3_rollOn 4 = .ok (.iload_n 2, 1) := by decide +kernel
theorem dX3_rollOn_5 : decode cX3_rollOn 5 = .ok (.iconst 1, 1) := by decide +kernel
theorem dX3_rollOn_6 : decode cX3_rollOn 6 = .ok (.if_icmp .lt 9, 3) := by decide +kernel
theorem dX3_rollOn_9 : decode cX3_rollOn 9 = .ok (.iload_n 2, 1) := by decide +kernel
theorem dX3_rollOn_10 : decode cX3_rollOn 10 = .ok (.bipush 50, 2) := by decide +kernel
theorem dX3_rollOn_12 : decode cX3_rollOn 12 = .ok (.if_icmp .le 13, 3) := by decide +kernel
theorem dX3_rollOn_15 : decode cX3_rollOn 15 = .ok (.new 38, 3) := by decide +kernel
theorem dX3_rollOn_18 : decode cX3_rollOn 18 = .ok (.dup, 1) := by decide +kernel
theorem dX3_rollOn_19 : decode cX3_rollOn 19 = .ok (.ldc 110, 2) := by decide +kernel
theorem dX3_rollOn_21 : decode cX3_rollOn 21 = .ok (.invokespecial 42, 3) := by decide +kernel
theorem dX3_rollOn_24 : decode cX3_rollOn 24 = .ok (.athrow, 1) := by decide +kernel
theorem dX3_rollOn_25 : decode cX3_rollOn 25 = .ok (.iconst 0, 1) := by decide +kernel
theorem dX3_rollOn_26 : decode cX3_rollOn 26 = .ok (.istore_n 3, 1) := by decide +kernel
theorem dX3_rollOn_27 : decode cX3_rollOn 27 = .ok (.iload_n 3, 1) := by decide +kernel
theorem dX3_rollOn_28 : decode cX3_rollOn 28 = .ok (.iload_n 2, 1) := by decide +kernel
theorem dX3_rollOn_29 : decode cX3_rollOn 29 = .ok (.if_icmp .ge 17, 3) := by decide +kernel
theorem dX3_rollOn_32 : decode cX3_rollOn 32 = .ok (.aload_n 0, 1) := by decide +kernel
theorem dX3_rollOn_33 : decode cX3_rollOn 33 = .ok (.iload_n 1, 1) := by decide +kernel
theorem dX3_rollOn_34 : decode cX3_rollOn 34 = .ok (.invokevirtual 102, 3) := by decide +kernel
theorem dX3_rollOn_37 : decode cX3_rollOn 37 = .ok (.ifCond .eq 9, 3) := by decide +kernel
theorem dX3_rollOn_40 : decode cX3_rollOn 40 = .ok (.iinc 3 1, 3) := by decide +kernel
theorem dX3_rollOn_43 : decode cX3_rollOn 43 = .ok (.goto (-16), 3) := by decide +kernel
theorem dX3_rollOn_46 : decode cX3_rollOn 46 = .ok (.iload_n 3, 1) := by decide +kernel
theorem dX3_rollOn_47 : decode cX3_rollOn 47 = .ok (.ireturn, 1) := by decide +kernel
set_option maxRecDepth 20000 in
theorem ggX3_column_X0_columnOf : GoodIn wsX3_column wsX0_columnOf := goodIn_r _ [4] (by decide +kernel) (by decide +kernel)
set_option maxRecDepth 20000 in
theorem gX3_column_X0_columnOf_n112 : GoodIn wsX3_column (wsX0_columnOf) := ggX3_column_X0_columnOf
theorem dX3_column_0 : decode cX3_column 0 = .ok (.aload_n 0, 1) := by decide +kernel
theorem dX3_column_1 : decode cX3_column 1 = .ok (.getfield 52, 3) := by decide +kernel
theorem dX3_column_4 : decode cX3_column 4 = .ok (.invokestatic 112, 3) := by decide +kernel
theorem dX3_column_7 : decode cX3_column 7 = .ok (.ireturn, 1) := by decide +kernel
set_option maxRecDepth 20000 in
theorem ggX3_row_X0_rowOf : GoodIn wsX3_row wsX0_rowOf := goodIn_r _ [4] (by decide +kernel) (by decide +kernel)
set_option maxRecDepth 20000 in
theorem gX3_row_X0_rowOf_n115 : GoodIn wsX3_row (wsX0_rowOf) := ggX3_row_X0_rowOf
theorem dX3_row_0 : decode cX3_row 0 = .ok (.aload_n 0, 1) := by decide +kernel
theorem dX3_row_1 : decode cX3_row 1 = .ok (.getfield 52, 3) := by decide +kernel
theorem dX3_row_4 : decode cX3_row 4 = .ok (.invokestatic 115, 3) := by decide +kernel
theorem dX3_row_7 : decode cX3_row 7 = .ok (.ireturn, 1) := by decide +kernel
set_option maxRecDepth 20000 in
theorem ggX3_top_X2_topOf : GoodIn wsX3_top wsX2_topOf := goodIn_r _ [4] (by decide +kernel) (by decide +kernel)
set_option maxRecDepth 20000 in
theorem gX3_top_X2_topOf_n118 : GoodIn wsX3_top (wsX2_topOf) := ggX3_top_X2_topOf
theorem dX3_top_0 : decode cX3_top 0 = .ok (.aload_n 0, 1) := by decide +kernel
theorem dX3_top_1 : decode cX3_top 1 = .ok (.getfield 96, 3) := by decide +kernel
theorem dX3_top_4 : decode cX3_top 4 = .ok (.invokestatic 118, 3) := by decide +kernel
theorem dX3_top_7 : decode cX3_top 7 = .ok (.ireturn, 1) := by decide +kernel
set_option maxRecDepth 20000 in
theorem ggX3_bottom_X3_top : GoodIn wsX3_bottom wsX3_top := goodIn_r _ [5, 6, 7, 8, 9, 10, 11, 12, 13, 14, 15, 16, 17] (by decide +kernel) (by decide +kernel)
set_option maxRecDepth 20000 in
theorem gX3_bottom_X3_top : GoodIn wsX3_bottom (wsV RX3 121 RX3 yX3_top wsX3_top) := goodIn_app (goodIn_of _ (by decide +kernel)) ggX3_bottom_X3_top
theorem dX3_bottom_0 : decode cX3_bottom 0 = .ok (.bipush 7, 2) := by decide +kernel
theorem dX3_bottom_2 : decode cX3_bottom 2 = .ok (.aload_n 0, 1) := by decide +kernel
theorem dX3_bottom_3 : decode cX3_bottom 3 = .ok (.invokevirtual 121, 3) := by decide +kernel
theorem dX3_bottom_6 : decode cX3_bottom 6 = .ok (.isub, 1) := by decide +kernel
theorem dX3_bottom_7 : decode cX3_bottom 7 = .ok (.ireturn, 1) := by decide +kernel
set_option maxRecDepth 20000 in
theorem ggX3_faceTo_X3_checkDirection : GoodIn wsX3_faceTo wsX3_checkDirection := goodIn_ca (goodIn_r _ [5, 6, 7] (by decide +kernel) (by decide +kernel)) (goodIn_sub (fun _ h => List.mem_cons_of_mem _ (List.mem_append_right _ h)) (by decide +kernel))
set_option maxRecDepth 20000 in
theorem gX3_faceTo_X3_checkDirection : GoodIn wsX3_faceTo (va_wsS RX3 99 yX3_checkDirection wsX3_checkDirection) := goodIn_app (goodIn_of _ (by decide +kernel)) ggX3_faceTo_X3_checkDirection
set_option maxRecDepth 20000 in
theorem ggX3_faceTo_X2_faceOn : GoodIn wsX3_faceTo wsX2_faceOn := goodIn_r _ [10, 11, 12, 9, 13, 14, 15, 16, 17, 18, 19, 20, 21, 22] (by decide +kernel) (by decide +kernel)
set_option maxRecDepth 20000 in
theorem gX3_faceTo_X2_faceOn_n124 : GoodIn wsX3_faceTo (wsX2_faceOn) := ggX3_faceTo_X2_faceOn
theorem dX3_faceTo_0 : decode cX3_faceTo 0 = .ok (.iload_n 1, 1) := by decide +kernel
theorem dX3_faceTo_1 : decode cX3_faceTo 1 = .ok (.invokestatic 99, 3) := by decide +kernel
theorem dX3_faceTo_4 : decode cX3_faceTo 4 = .ok (.aload_n 0, 1) := by decide +kernel
theorem dX3_faceTo_5 : decode cX3_faceTo 5 = .ok (.getfield 96, 3) := by decide +kernel
theorem dX3_faceTo_8 : decode cX3_faceTo 8 = .ok (.iload_n 1, 1) := by decide +kernel
theorem dX3_faceTo_9 : decode cX3_faceTo 9 = .ok (.invokestatic 124, 3) := by decide +kernel
theorem dX3_faceTo_12 : decode cX3_faceTo 12 = .ok (.ireturn, 1) := by decide +kernel
theorem dX3_isAsAtFirst_0 : decode cX3_isAsAtFirst 0 = .ok (.aload_n 0, 1) := by decide +kernel
theorem dX3_isAsAtFirst_1 : decode cX3_isAsAtFirst 1 = .ok (.getfield 96, 3) := by decide +kernel
theorem dX3_isAsAtFirst_4 : decode cX3_isAsAtFirst 4 = .ok (.iconst 1, 1) := by decide +kernel
theorem dX3_isAsAtFirst_5 : decode cX3_isAsAtFirst 5 = .ok (.if_icmp .ne 7, 3) := by decide +kernel
theorem dX3_isAsAtFirst_8 : decode cX3_isAsAtFirst 8 = .ok (.iconst 1, 1) := by decide +kernel
theorem dX3_isAsAtFirst_9 : decode cX3_isAsAtFirst 9 = .ok (.goto 4, 3) := by decide +kernel
theorem dX3_isAsAtFirst_12 : decode cX3_isAsAtFirst 12 = .ok (.iconst 0, 1) := by decide +kernel
theorem dX3_isAsAtFirst_13 : decode cX3_isAsAtFirst 13 = .ok (.ireturn, 1) := by decide +kernel
set_option maxRecDepth 20000 in
theorem ggX3_colourOf_X3_checkFace : GoodIn wsX3_colourOf wsX3_checkFace := goodIn_ca (goodIn_r _ [5, 6, 7, 8, 9, 4, 10] (by decide +kernel) (by decide +kernel)) (goodIn_sub (fun _ h => List.mem_cons_of_mem _ (List.mem_append_right _ h)) (by decide +kernel))
set_option maxRecDepth 20000 in
theorem gX3_colourOf_X3_checkFace : GoodIn wsX3_colourOf (va_wsS RX3 64 yX3_checkFace wsX3_checkFace) := goodIn_app (goodIn_of _ (by decide +kernel)) ggX3_colourOf_X3_checkFace
theorem dX3_colourOf_0 : decode cX3_colourOf 0 = .ok (.iload_n 1, 1) := by decide +kernel
theorem dX3_colourOf_1 : decode cX3_colourOf 1 = .ok (.invokestatic 64, 3) := by decide +kernel
theorem dX3_colourOf_4 : decode cX3_colourOf 4 = .ok (.aload_n 0, 1) := by decide +kernel
theorem dX3_colourOf_5 : decode cX3_colourOf 5 = .ok (.getfield 23, 3) := by decide +kernel
theorem dX3_colourOf_8 : decode cX3_colourOf 8 = .ok (.iload_n 1, 1) := by decide +kernel
theorem dX3_colourOf_9 : decode cX3_colourOf 9 = .ok (.iaload, 1) := by decide +kernel
theorem dX3_colourOf_10 : decode cX3_colourOf 10 = .ok (.ireturn, 1) := by decide +kernel
set_option maxRecDepth 20000 in
theorem ggX3_paintOf_X3_checkFace : GoodIn wsX3_paintOf wsX3_checkFace := goodIn_ca (goodIn_r _ [5, 6, 7, 8, 9, 4, 10] (by decide +kernel) (by decide +kernel)) (goodIn_sub (fun _ h => List.mem_cons_of_mem _ (List.mem_append_right _ h)) (by decide +kernel))
set_option maxRecDepth 20000 in
theorem gX3_paintOf_X3_checkFace : GoodIn wsX3_paintOf (va_wsS RX3 64 yX3_checkFace wsX3_checkFace) := goodIn_app (goodIn_of _ (by decide +kernel)) ggX3_paintOf_X3_checkFace
theorem dX3_paintOf_0 : decode cX3_paintOf 0 = .ok (.iload_n 1, 1) := by decide +kernel
theorem dX3_paintOf_1 : decode cX3_paintOf 1 = .ok (.invokestatic 64, 3) := by decide +kernel
theorem dX3_paintOf_4 : decode cX3_paintOf 4 = .ok (.aload_n 0, 1) := by decide +kernel
theorem dX3_paintOf_5 : decode cX3_paintOf 5 = .ok (.getfield 27, 3) := by decide +kernel
theorem dX3_paintOf_8 : decode cX3_paintOf 8 = .ok (.iload_n 1, 1) := by decide +kernel
theorem dX3_paintOf_9 : decode cX3_paintOf 9 = .ok (.iaload, 1) := by decide +kernel
theorem dX3_paintOf_10 : decode cX3_paintOf 10 = .ok (.ireturn, 1) := by decide +kernel
set_option maxRecDepth 20000 in
theorem ggX3_isWall_X3_checkCell : GoodIn wsX3_isWall wsX3_checkCell := goodIn_ca (goodIn_r _ [6, 7, 8, 1, 9, 10, 11, 12, 13, 14, 23, 24, 25, 26, 27, 28, 29, 30, 31, 32, 33, 34] (by decide +kernel) (by decide +kernel)) (goodIn_sub (fun _ h => List.mem_cons_of_mem _ (List.mem_append_right _ h)) (by decide +kernel))
set_option maxRecDepth 20000 in
theorem gX3_isWall_X3_checkCell : GoodIn wsX3_isWall (wsV RX3 45 RX3 yX3_checkCell wsX3_checkCell) := goodIn_app (goodIn_of _ (by decide +kernel)) ggX3_isWall_X3_checkCell
set_option maxRecDepth 20000 in
theorem ggX3_isWall_X0_isFree : GoodIn wsX3_isWall wsX0_isFree := goodIn_r _ [17, 18, 19, 9, 11, 10, 12, 13, 14, 20, 21, 22, 31, 32, 33, 34] (by decide +kernel) (by decide +kernel)
set_option maxRecDepth 20000 in
theorem gX3_isWall_X0_isFree_n77 : GoodIn wsX3_isWall (wsX0_isFree) := ggX3_isWall_X0_isFree
theorem dX3_isWall_0 : decode cX3_isWall 0 = .ok (.aload_n 0, 1) := by decide +kernel
theorem dX3_isWall_1 : decode cX3_isWall 1 = .ok (.iload_n 1, 1) := by decide +kernel
theorem dX3_isWall_2 : decode cX3_isWall 2 = .ok (.iload_n 2, 1) := by decide +kernel
theorem dX3_isWall_3 : decode cX3_isWall 3 = .ok (.invokevirtual 45, 3) := by decide +kernel
theorem dX3_isWall_6 : decode cX3_isWall 6 = .ok (.aload_n 0, 1) := by decide +kernel
theorem dX3_isWall_7 : decode cX3_isWall 7 = .ok (.getfield 12, 3) := by decide +kernel
theorem dX3_isWall_10 : decode cX3_isWall 10 = .ok (.iload_n 1, 1) := by decide +kernel
theorem dX3_isWall_11 : decode cX3_isWall 11 = .ok (.iload_n 2, 1) := by decide +kernel
theorem dX3_isWall_12 : decode cX3_isWall 12 = .ok (.invokevirtual 77, 3) := by decide +kernel
theorem dX3_isWall_15 : decode cX3_isWall 15 = .ok (.ifCond .ne 7, 3) := by decide +kernel
theorem dX3_isWall_18 : decode cX3_isWall 18 = .ok (.iconst 1, 1) := by decide +kernel
theorem dX3_isWall_19 : decode cX3_isWall 19 = .ok (.goto 4, 3) := by decide +kernel
theorem dX3_isWall_22 : decode cX3_isWall 22 = .ok (.iconst 0, 1) := by decide +kernel
theorem dX3_isWall_23 : decode cX3_isWall 23 = .ok (.ireturn, 1) := by decide +kernel
set_option maxRecDepth 20000 in
theorem ggX3_printAt_X3_checkCell : GoodIn wsX3_printAt wsX3_checkCell := goodIn_ca (goodIn_r _ [6, 7, 8, 1, 9, 10, 11, 12, 13, 14, 23, 24, 25, 26, 27, 28, 29, 30, 31, 32, 33, 34] (by decide +kernel) (by decide +kernel)) (goodIn_sub (fun _ h => List.mem_cons_of_mem _ (List.mem_append_right _ h)) (by decide +kernel))
set_option maxRecDepth 20000 in
theorem gX3_printAt_X3_checkCell : GoodIn wsX3_printAt (wsV RX3 45 RX3 yX3_checkCell wsX3_checkCell) := goodIn_app (goodIn_of _ (by decide +kernel)) ggX3_printAt_X3_checkCell
set_option maxRecDepth 20000 in
theorem ggX3_printAt_X0_printOn : GoodIn wsX3_printAt wsX0_printOn := goodIn_r _ [17, 18, 19, 9, 11, 10, 12, 13, 14, 20, 21, 22, 31, 32, 33, 34] (by decide +kernel) (by decide +kernel)
set_option maxRecDepth 20000 in
theorem gX3_printAt_X0_printOn_n127 : GoodIn wsX3_printAt (wsX0_printOn) := ggX3_printAt_X0_printOn
theorem dX3_printAt_0 : decode cX3_printAt 0 = .ok (.aload_n 0, 1) := by decide +kernel
theorem dX3_printAt_1 : decode cX3_printAt 1 = .ok (.iload_n 1, 1) := by decide +kernel
theorem dX3_printAt_2 : decode cX3_printAt 2 = .ok (.iload_n 2, 1) := by decide +kernel
theorem dX3_printAt_3 : decode cX3_printAt 3 = .ok (.invokevirtual 45, 3) := by decide +kernel
theorem dX3_printAt_6 : decode cX3_printAt 6 = .ok (.aload_n 0, 1) := by decide +kernel
theorem dX3_printAt_7 : decode cX3_printAt 7 = .ok (.getfield 12, 3) := by decide +kernel
theorem dX3_printAt_10 : decode cX3_printAt 10 = .ok (.iload_n 1, 1) := by decide +kernel
theorem dX3_printAt_11 : decode cX3_printAt 11 = .ok (.iload_n 2, 1) := by decide +kernel
theorem dX3_printAt_12 : decode cX3_printAt 12 = .ok (.invokevirtual 127, 3) := by decide +kernel
theorem dX3_printAt_15 : decode cX3_printAt 15 = .ok (.ireturn, 1) := by decide +kernel
set_option maxRecDepth 20000 in
theorem ggX3_canRoll_X3_checkDirection : GoodIn wsX3_canRoll wsX3_checkDirection := goodIn_ca (goodIn_r _ [6, 7, 8] (by decide +kernel) (by decide +kernel)) (goodIn_sub (fun _ h => List.mem_cons_of_mem _ (List.mem_append_right _ h)) (by decide +kernel))
set_option maxRecDepth 20000 in
theorem gX3_canRoll_X3_checkDirection : GoodIn wsX3_canRoll (va_wsS RX3 99 yX3_checkDirection wsX3_checkDirection) := goodIn_app (goodIn_of _ (by decide +kernel)) ggX3_canRoll_X3_checkDirection
set_option maxRecDepth 20000 in
theorem ggX3_canRoll_X0_nextCell : GoodIn wsX3_canRoll wsX0_nextCell := goodIn_r _ [12, 13, 14, 10, 15, 16, 17, 18, 19, 20, 21, 22, 23, 24, 25, 26, 27, 28, 29, 30, 31, 32, 41, 42, 43, 44] (by decide +kernel) (by decide +kernel)
set_option maxRecDepth 20000 in
theorem gX3_canRoll_X0_nextCell_n130 : GoodIn wsX3_canRoll (wsX0_nextCell) := ggX3_canRoll_X0_nextCell
theorem dX3_canRoll_0 : decode cX3_canRoll 0 = .ok (.iload_n 1, 1) := by decide +kernel
theorem dX3_canRoll_1 : decode cX3_canRoll 1 = .ok (.invokestatic 99, 3) := by decide +kernel
theorem dX3_canRoll_4 : decode cX3_canRoll 4 = .ok (.aload_n 0, 1) := by decide +kernel
theorem dX3_canRoll_5 : decode cX3_canRoll 5 = .ok (.getfield 12, 3) := by decide +kernel
theorem dX3_canRoll_8 : decode cX3_canRoll 8 = .ok (.aload_n 0, 1) := by decide +kernel
theorem dX3_canRoll_9 : decode cX3_canRoll 9 = .ok (.getfield 52, 3) := by decide +kernel
theorem dX3_canRoll_12 : decode cX3_canRoll 12 = .ok (.iload_n 1, 1) := by decide +kernel
theorem dX3_canRoll_13 : decode cX3_canRoll 13 = .ok (.invokevirtual 130, 3) := by decide +kernel
theorem dX3_canRoll_16 : decode cX3_canRoll 16 = .ok (.iconst (-1), 1) := by decide +kernel
theorem dX3_canRoll_17 : decode cX3_canRoll 17 = .ok (.if_icmp .eq 7, 3) := by decide +kernel
theorem dX3_canRoll_20 : decode cX3_canRoll 20 = .ok (.iconst 1, 1) := by decide +kernel
theorem dX3_canRoll_21 : decode cX3_canRoll 21 = .ok (.goto 4, 3) := by decide +kernel
theorem dX3_canRoll_24 : decode cX3_canRoll 24 = .ok (.iconst 0, 1) := by decide +kernel
theorem dX3_canRoll_25 : decode cX3_canRoll 25 = .ok (.ireturn, 1) := by decide +kernel
theorem dX3_width_0 : decode cX3_width 0 = .ok (.aload_n 0, 1) := by decide +kernel
theorem dX3_width_1 : decode cX3_width 1 = .ok (.getfield 12, 3) := by decide +kernel
theorem dX3_width_4 : decode cX3_width 4 = .ok (.getfield 133, 3) := by decide +kernel
theorem dX3_width_7 : decode cX3_width 7 = .ok (.ireturn, 1) := by decide +kernel
theorem dX3_height_0 : decode cX3_height 0 = .ok (.aload_n 0, 1) := by decide +kernel
theorem dX3_height_1 : decode cX3_height 1 = .ok (.getfield 12, 3) := by decide +kernel
theorem dX3_height_4 : decode cX3_height 4 = .ok (.getfield 136, 3) := by decide +kernel
theorem dX3_height_7 : decode cX3_height 7 = .ok (.ireturn, 1) := by decide +kernel
set_option maxRecDepth 20000 in
theorem ggX3_walls_X0_countWalls : GoodIn wsX3_walls wsX0_countWalls := goodIn_r _ [5, 6, 15, 16, 17, 18] (by decide +kernel) (by decide +kernel)
set_option maxRecDepth 20000 in
theorem gX3_walls_X0_countWalls_n139 : GoodIn wsX3_walls (wsX0_countWalls) := ggX3_walls_X0_countWalls
theorem dX3_walls_0 : decode cX3_walls 0 = .ok (.aload_n 0, 1) := by decide +kernel
theorem dX3_walls_1 : decode cX3_walls 1 = .ok (.getfield 12, 3) := by decide +kernel
theorem dX3_walls_4 : decode cX3_walls 4 = .ok (.invokevirtual 139, 3) := by decide +kernel
theorem dX3_walls_7 : decode cX3_walls 7 = .ok (.ireturn, 1) := by decide +kernel
theorem dX3_rolls_0 : decode cX3_rolls 0 = .ok (.aload_n 0, 1) := by decide +kernel
theorem dX3_rolls_1 : decode cX3_rolls 1 = .ok (.getfield 142, 3) := by decide +kernel
theorem dX3_rolls_4 : decode cX3_rolls 4 = .ok (.ireturn, 1) := by decide +kernel
theorem dX3_prints_0 : decode cX3_prints 0 = .ok (.aload_n 0, 1) := by decide +kernel
theorem dX3_prints_1 : decode cX3_prints 1 = .ok (.getfield 145, 3) := by decide +kernel
theorem dX3_prints_4 : decode cX3_prints 4 = .ok (.ireturn, 1) := by decide +kernel
set_option maxRecDepth 20000 in
theorem ggX3_cellsWith_X0_countPrints : GoodIn wsX3_cellsWith wsX0_countPrints := goodIn_r _ [7, 8, 9, 10, 11, 12, 5, 13, 14, 15, 16, 17, 18, 19, 20, 21, 30, 31, 32, 33] (by decide +kernel) (by decide +kernel)
set_option maxRecDepth 20000 in
theorem gX3_cellsWith_X0_countPrints_n153 : GoodIn wsX3_cellsWith (wsX0_countPrints) := ggX3_cellsWith_X0_countPrints
theorem dX3_cellsWith_0 : decode cX3_cellsWith 0 = .ok (.iload_n 1, 1) := by decide +kernel
theorem dX3_cellsWith_1 : decode cX3_cellsWith 1 = .ok (.ifCond .lt 9, 3) := by decide +kernel
theorem dX3_cellsWith_4 : decode cX3_cellsWith 4 = .ok (.iload_n 1, 1) := by decide +kernel
theorem dX3_cellsWith_5 : decode cX3_cellsWith 5 = .ok (.bipush 9, 2) := by decide +kernel
theorem dX3_cellsWith_7 : decode cX3_cellsWith 7 = .ok (.if_icmp .le 13, 3) := by decide +kernel
theorem dX3_cellsWith_10 : decode cX3_cellsWith 10 = .ok (.new 148, 3) := by decide +kernel
theorem dX3_cellsWith_13 : decode cX3_cellsWith 13 = .ok (.dup, 1) := by decide +kernel
theorem dX3_cellsWith_14 : decode cX3_cellsWith 14 = .ok (.ldc 150, 2) := by decide +kernel
theorem dX3_cellsWith_16 : decode cX3_cellsWith 16 = .ok (.invokespecial 152, 3) := by decide +kernel
theorem dX3_cellsWith_19 : decode cX3_cellsWith 19 = .ok (.athrow, 1) := by decide +kernel
theorem dX3_cellsWith_20 : decode cX3_cellsWith 20 = .ok (.aload_n 0, 1) := by decide +kernel
theorem dX3_cellsWith_21 : decode cX3_cellsWith 21 = .ok (.getfield 12, 3) := by decide +kernel
theorem dX3_cellsWith_24 : decode cX3_cellsWith 24 = .ok (.iload_n 1, 1) := by decide +kernel
theorem dX3_cellsWith_25 : decode cX3_cellsWith 25 = .ok (.invokevirtual 153, 3) := by decide +kernel
theorem dX3_cellsWith_28 : decode cX3_cellsWith 28 = .ok (.ireturn, 1) := by decide +kernel
set_option maxRecDepth 20000 in
theorem ggX3_fewestRolls_X3_checkCell : GoodIn wsX3_fewestRolls wsX3_checkCell := goodIn_ca (goodIn_r _ [6, 7, 8, 9, 10, 11, 12, 13, 14, 15, 94, 95, 96, 97, 98, 99, 100, 101, 102, 103, 104, 105] (by decide +kernel) (by decide +kernel)) (goodIn_sub (fun _ h => List.mem_cons_of_mem _ (List.mem_append_right _ h)) (by decide +kernel))
set_option maxRecDepth 20000 in
theorem gX3_fewestRolls_X3_checkCell : GoodIn wsX3_fewestRolls (wsV RX3 45 RX3 yX3_checkCell wsX3_checkCell) := goodIn_app (goodIn_of _ (by decide +kernel)) ggX3_fewestRolls_X3_checkCell
set_option maxRecDepth 20000 in
theorem ggX3_fewestRolls_X3_searchFromHere : GoodIn wsX3_fewestRolls wsX3_searchFromHere := goodIn_r _ [19, 1, 20, 21, 9, 22, 23, 24, 25, 26, 27, 28, 29, 30, 31, 32, 33, 34, 35, 36, 37, 38, 39, 40, 41, 42, 43, 11, 44, 45, 46, 47, 48, 49, 50, 51, 52, 53, 54, 55, 56, 57, 10, 12, 13, 14, 15, 58, 59, 60, 61, 62, 63, 64, 65, 66, 67, 68, 69, 70, 71, 72, 73, 74, 75, 76, 77, 78, 79, 94, 95, 96, 97, 98, 99, 100, 101, 106, 107, 108, 102, 103, 104, 105] (by decide +kernel) (by decide +kernel)
set_option maxRecDepth 20000 in
theorem gX3_fewestRolls_X3_searchFromHere : GoodIn wsX3_fewestRolls (wsV RX3 156 RX3 yX3_searchFromHere wsX3_searchFromHere) := goodIn_app (goodIn_of _ (by decide +kernel)) ggX3_fewestRolls_X3_searchFromHere
set_option maxRecDepth 20000 in
theorem ggX3_fewestRolls_X0_cellAt : GoodIn wsX3_fewestRolls wsX0_cellAt := goodIn_r _ [60] (by decide +kernel) (by decide +kernel)
set_option maxRecDepth 20000 in
theorem gX3_fewestRolls_X0_cellAt_n48 : GoodIn wsX3_fewestRolls (wsX0_cellAt) := ggX3_fewestRolls_X0_cellAt
set_option maxRecDepth 20000 in
theorem ggX3_fewestRolls_X1_fewestTo : GoodIn wsX3_fewestRolls wsX1_fewestTo := goodIn_r _ [82, 83, 84, 85, 23, 86, 71, 62, 72, 39, 40, 41, 42, 26, 87, 88, 89, 90, 91, 92, 93, 106, 107, 108] (by decide +kernel) (by decide +kernel)
set_option maxRecDepth 20000 in
theorem gX3_fewestRolls_X1_fewestTo_n159 : GoodIn wsX3_fewestRolls (wsX1_fewestTo) := ggX3_fewestRolls_X1_fewestTo
theorem dX3_fewestRolls_0 : decode cX3_fewestRolls 0 = .ok (.aload_n 0, 1) := by decide +kernel
theorem dX3_fewestRolls_1 : decode cX3_fewestRolls 1 = .ok (.iload_n 1, 1) := by decide +kernel
theorem dX3_fewestRolls_2 : decode cX3_fewestRolls 2 = .ok (.iload_n 2, 1) := by decide +kernel
theorem dX3_fewestRolls_3 : decode cX3_fewestRolls 3 = .ok (.invokevirtual 45, 3) := by decide +kernel
theorem dX3_fewestRolls_6 : decode cX3_fewestRolls 6 = .ok (.aload_n 0, 1) := by decide +kernel
theorem dX3_fewestRolls_7 : decode cX3_fewestRolls 7 = .ok (.invokevirtual 156, 3) := by decide +kernel
theorem dX3_fewestRolls_10 : decode cX3_fewestRolls 10 = .ok (.aload_n 0, 1) := by decide +kernel
theorem dX3_fewestRolls_11 : decode cX3_fewestRolls 11 = .ok (.getfield 19, 3) := by decide +kernel
theorem dX3_fewestRolls_14 : decode cX3_fewestRolls 14 = .ok (.iload_n 1, 1) := by decide +kernel
theorem dX3_fewestRolls_15 : decode cX3_fewestRolls 15 = .ok (.iload_n 2, 1) := by decide +kernel
theorem dX3_fewestRolls_16 : decode cX3_fewestRolls 16 = .ok (.invokestatic 48, 3) := by decide +kernel
theorem dX3_fewestRolls_19 : decode cX3_fewestRolls 19 = .ok (.invokevirtual 159, 3) := by decide +kernel
theorem dX3_fewestRolls_22 : decode cX3_fewestRolls 22 = .ok (.ireturn, 1) := by decide +kernel
set_option maxRecDepth 20000 in
theorem ggX3_fewestRollsWithTop_X3_checkCell : GoodIn wsX3_fewestRollsWithTop wsX3_checkCell := goodIn_ca (goodIn_r _ [6, 7, 8, 9, 10, 11, 12, 13, 14, 15, 96, 97, 98, 99, 100, 101, 102, 103, 104, 105, 106, 107] (by decide +kernel) (by decide +kernel)) (goodIn_sub (fun _ h => List.mem_cons_of_mem _ (List.mem_append_right _ h)) (by decide +kernel))
set_option maxRecDepth 20000 in
theorem gX3_fewestRollsWithTop_X3_checkCell : GoodIn wsX3_fewestRollsWithTop (wsV RX3 45 RX3 yX3_checkCell wsX3_checkCell) := goodIn_app (goodIn_of _ (by decide +kernel)) ggX3_fewestRollsWithTop_X3_checkCell
set_option maxRecDepth 20000 in
theorem ggX3_fewestRollsWithTop_X3_checkFace : GoodIn wsX3_fewestRollsWithTop wsX3_checkFace := goodIn_ca (goodIn_r _ [18, 7, 8, 19, 20, 5, 21] (by decide +kernel) (by decide +kernel)) (goodIn_sub (fun _ h => List.mem_cons_of_mem _ (List.mem_append_right _ h)) (by decide +kernel))
set_option maxRecDepth 20000 in
theorem gX3_fewestRollsWithTop_X3_checkFace : GoodIn wsX3_fewestRollsWithTop (va_wsS RX3 64 yX3_checkFace wsX3_checkFace) := goodIn_app (goodIn_of _ (by decide +kernel)) ggX3_fewestRollsWithTop_X3_checkFace
set_option maxRecDepth 20000 in
theorem ggX3_fewestRollsWithTop_X3_searchFromHere : GoodIn wsX3_fewestRollsWithTop wsX3_searchFromHere := goodIn_r _ [25, 1, 26, 27, 9, 28, 29, 30, 31, 32, 33, 34, 35, 36, 37, 38, 39, 40, 41, 42, 43, 44, 45, 46, 47, 48, 49, 11, 50, 51, 52, 53, 54, 55, 56, 57, 58, 59, 60, 61, 62, 63, 10, 12, 13, 14, 15, 64, 65, 66, 67, 68, 69, 70, 71, 72, 73, 74, 75, 76, 77, 78, 79, 80, 81, 82, 83, 84, 85, 96, 97, 98, 99, 100, 101, 102, 103, 108, 109, 110, 104, 105, 106, 107] (by decide +kernel) (by decide +kernel)
set_option maxRecDepth 20000 in
theorem gX3_fewestRollsWithTop_X3_searchFromHere : GoodIn wsX3_fewestRollsWithTop (wsV RX3 156 RX3 yX3_searchFromHere wsX3_searchFromHere) := goodIn_app (goodIn_of _ (by decide +kernel)) ggX3_fewestRollsWithTop_X3_searchFromHere
set_option maxRecDepth 20000 in
theorem ggX3_fewestRollsWithTop_X0_cellAt : GoodIn wsX3_fewestRollsWithTop wsX0_cellAt := goodIn_r _ [66] (by decide +kernel) (by decide +kernel)
set_option maxRecDepth 20000 in
theorem gX3_fewestRollsWithTop_X0_cellAt_n48 : GoodIn wsX3_fewestRollsWithTop (wsX0_cellAt) := ggX3_fewestRollsWithTop_X0_cellAt
set_option maxRecDepth 20000 in
theorem ggX3_fewestRollsWithTop_X1_fewestWithTop : GoodIn wsX3_fewestRollsWithTop wsX1_fewestWithTop := goodIn_r _ [88, 77, 68, 78, 45, 46, 47, 29, 48, 32, 89, 90, 91, 92, 93, 94, 95, 108, 109, 110] (by decide +kernel) (by decide +kernel)
set_option maxRecDepth 20000 in
theorem gX3_fewestRollsWithTop_X1_fewestWithTop_n162 : GoodIn wsX3_fewestRollsWithTop (wsX1_fewestWithTop) := ggX3_fewestRollsWithTop_X1_fewestWithTop
theorem dX3_fewestRollsWithTop_0 : decode cX3_fewestRollsWithTop 0 = .ok (.aload_n 0, 1) := by decide +kernel
theorem dX3_fewestRollsWithTop_1 : decode cX3_fewestRollsWithTop 1 = .ok (.iload_n 1, 1) := by decide +kernel
theorem dX3_fewestRollsWithTop_2 : decode cX3_fewestRollsWithTop 2 = .ok (.iload_n 2, 1) := by decide +kernel
theorem dX3_fewestRollsWithTop_3 : decode cX3_fewestRollsWithTop 3 = .ok (.invokevirtual 45, 3) := by decide +kernel
theorem dX3_fewestRollsWithTop_6 : decode cX3_fewestRollsWithTop 6 = .ok (.iload_n 3, 1) := by decide +kernel
theorem dX3_fewestRollsWithTop_7 : decode cX3_fewestRollsWithTop 7 = .ok (.invokestatic 64, 3) := by decide +kernel
theorem dX3_fewestRollsWithTop_10 : decode cX3_fewestRollsWithTop 10 = .ok (.aload_n 0, 1) := by decide +kernel
theorem dX3_fewestRollsWithTop_11 : decode cX3_fewestRollsWithTop 11 = .ok (.invokevirtual 156, 3) := by decide +kernel
theorem dX3_fewestRollsWithTop_14 : decode cX3_fewestRollsWithTop 14 = .ok (.aload_n 0, 1) := by decide +kernel
theorem dX3_fewestRollsWithTop_15 : decode cX3_fewestRollsWithTop 15 = .ok (.getfield 19, 3) := by decide +kernel
theorem dX3_fewestRollsWithTop_18 : decode cX3_fewestRollsWithTop 18 = .ok (.iload_n 1, 1) := by decide +kernel
theorem dX3_fewestRollsWithTop_19 : decode cX3_fewestRollsWithTop 19 = .ok (.iload_n 2, 1) := by decide +kernel
theorem dX3_fewestRollsWithTop_20 : decode cX3_fewestRollsWithTop 20 = .ok (.invokestatic 48, 3) := by decide +kernel
theorem dX3_fewestRollsWithTop_23 : decode cX3_fewestRollsWithTop 23 = .ok (.iload_n 3, 1) := by decide +kernel
theorem dX3_fewestRollsWithTop_24 : decode cX3_fewestRollsWithTop 24 = .ok (.invokevirtual 162, 3) := by decide +kernel
theorem dX3_fewestRollsWithTop_27 : decode cX3_fewestRollsWithTop 27 = .ok (.ireturn, 1) := by decide +kernel
set_option maxRecDepth 20000 in
theorem ggX3_firstRoll_X3_checkCell : GoodIn wsX3_firstRoll wsX3_checkCell := goodIn_ca (goodIn_r _ [9, 10, 11, 4, 12, 13, 14, 15, 16, 17, 89, 90, 91, 92, 93, 94, 95, 96, 97, 98, 99, 100] (by decide +kernel) (by decide +kernel)) (goodIn_sub (fun _ h => List.mem_cons_of_mem _ (List.mem_append_right _ h)) (by decide +kernel))
set_option maxRecDepth 20000 in
theorem gX3_firstRoll_X3_checkCell : GoodIn wsX3_firstRoll (wsV RX3 45 RX3 yX3_checkCell wsX3_checkCell) := goodIn_app (goodIn_of _ (by decide +kernel)) ggX3_firstRoll_X3_checkCell
set_option maxRecDepth 20000 in
theorem ggX3_firstRoll_X3_checkFace : GoodIn wsX3_firstRoll wsX3_checkFace := goodIn_ca (goodIn_r _ [20, 10, 11, 21, 22, 8, 23] (by decide +kernel) (by decide +kernel)) (goodIn_sub (fun _ h => List.mem_cons_of_mem _ (List.mem_append_right _ h)) (by decide +kernel))
set_option maxRecDepth 20000 in
theorem gX3_firstRoll_X3_checkFace : GoodIn wsX3_firstRoll (va_wsS RX3 64 yX3_checkFace wsX3_checkFace) := goodIn_app (goodIn_of _ (by decide +kernel)) ggX3_firstRoll_X3_checkFace
set_option maxRecDepth 20000 in
theorem ggX3_firstRoll_X0_cellAt : GoodIn wsX3_firstRoll wsX0_cellAt := goodIn_r _ [25] (by decide +kernel) (by decide +kernel)
set_option maxRecDepth 20000 in
theorem gX3_firstRoll_X0_cellAt_n48 : GoodIn wsX3_firstRoll (wsX0_cellAt) := ggX3_firstRoll_X0_cellAt
set_option maxRecDepth 20000 in
theorem ggX3_firstRoll_X3_searchBackFrom : GoodIn wsX3_firstRoll wsX3_searchBackFrom := goodIn_r _ [29, 1, 4, 30, 31, 32, 33, 34, 35, 36, 37, 38, 39, 40, 13, 41, 42, 43, 44, 45, 46, 47, 48, 49, 50, 51, 52, 53, 54, 12, 14, 15, 16, 17, 55, 24, 25, 56, 57, 58, 59, 60, 61, 62, 63, 64, 65, 66, 67, 68, 69, 70, 71, 72, 73, 74, 75, 76, 77, 78, 79, 80, 81, 82, 83, 84, 85, 86, 87, 88, 89, 90, 91, 92, 93, 94, 95, 96, 101, 102, 103, 97, 98, 99, 100] (by decide +kernel) (by decide +kernel)
set_option maxRecDepth 20000 in
theorem gX3_firstRoll_X3_searchBackFrom : GoodIn wsX3_firstRoll (wsV RX3 165 RX3 yX3_searchBackFrom wsX3_searchBackFrom) := goodIn_app (goodIn_of _ (by decide +kernel)) ggX3_firstRoll_X3_searchBackFrom
set_option maxRecDepth 20000 in
theorem ggX3_firstRoll_X1_rollsAt : GoodIn wsX3_firstRoll wsX1_rollsAt := goodIn_r _ [69, 34, 101, 102, 103] (by decide +kernel) (by decide +kernel)
set_option maxRecDepth 20000 in
theorem gX3_firstRoll_X1_rollsAt_n168 : GoodIn wsX3_firstRoll (wsX1_rollsAt) := ggX3_firstRoll_X1_rollsAt
set_option maxRecDepth 20000 in
theorem ggX3_firstRoll_X0_nextCell : GoodIn wsX3_firstRoll wsX0_nextCell := goodIn_r _ [72, 43, 44, 13, 45, 46, 47, 48, 49, 50, 51, 52, 53, 54, 12, 14, 15, 16, 17, 55, 24, 25, 97, 98, 99, 100] (by decide +kernel) (by decide +kernel)
set_option maxRecDepth 20000 in
theorem gX3_firstRoll_X0_nextCell_n130 : GoodIn wsX3_firstRoll (wsX0_nextCell) := ggX3_firstRoll_X0_nextCell
set_option maxRecDepth 20000 in
theorem ggX3_firstRoll_X2_behindRoll : GoodIn wsX3_firstRoll wsX2_behindRoll := goodIn_r _ [74, 75, 76, 57, 77, 78, 79, 80, 81, 56, 58, 82, 83, 84, 85, 86, 87] (by decide +kernel) (by decide +kernel)
set_option maxRecDepth 20000 in
theorem gX3_firstRoll_X2_behindRoll_n171 : GoodIn wsX3_firstRoll (wsX2_behindRoll) := ggX3_firstRoll_X2_behindRoll
theorem dX3_firstRoll_0 : decode cX3_firstRoll 0 = .ok (.aload_n 0, 1) := by decide +kernel
theorem dX3_firstRoll_1 : decode cX3_firstRoll 1 = .ok (.iload_n 1, 1) := by decide +kernel
theorem dX3_firstRoll_2 : decode cX3_firstRoll 2 = .ok (.iload_n 2, 1) := by decide +kernel
theorem dX3_firstRoll_3 : decode cX3_firstRoll 3 = .ok (.invokevirtual 45, 3) := by decide +kernel
theorem dX3_firstRoll_6 : decode cX3_firstRoll 6 = .ok (.iload_n 3, 1) := by decide +kernel
theorem dX3_firstRoll_7 : decode cX3_firstRoll 7 = .ok (.invokestatic 64, 3) := by decide +kernel
theorem dX3_firstRoll_10 : decode cX3_firstRoll 10 = .ok (.aload_n 0, 1) := by decide +kernel
theorem dX3_firstRoll_11 : decode cX3_firstRoll 11 = .ok (.iload_n 1, 1) := by decide +kernel
theorem dX3_firstRoll_12 : decode cX3_firstRoll 12 = .ok (.iload_n 2, 1) := by decide +kernel
theorem dX3_firstRoll_13 : decode cX3_firstRoll 13 = .ok (.invokestatic 48, 3) := by decide +kernel
theorem dX3_firstRoll_16 : decode cX3_firstRoll 16 = .ok (.iload_n 3, 1) := by decide +kernel
theorem dX3_firstRoll_17 : decode cX3_firstRoll 17 = .ok (.invokevirtual 165, 3) := by decide +kernel
theorem dX3_firstRoll_20 : decode cX3_firstRoll 20 = .ok (.aload_n 0, 1) := by decide +kernel
theorem dX3_firstRoll_21 : decode cX3_firstRoll 21 = .ok (.getfield 19, 3) := by decide +kernel
theorem dX3_firstRoll_24 : decode cX3_firstRoll 24 = .ok (.aload_n 0, 1) := by decide +kernel
theorem dX3_firstRoll_25 : decode cX3_firstRoll 25 = .ok (.getfield 52, 3) := by decide +kernel
theorem dX3_firstRoll_28 : decode cX3_firstRoll 28 = .ok (.aload_n 0, 1) := by decide +kernel
theorem dX3_firstRoll_29 : decode cX3_firstRoll 29 = .ok (.getfield 96, 3) := by decide +kernel
theorem dX3_firstRoll_32 : decode cX3_firstRoll 32 = .ok (.invokevirtual 168, 3) := by decide +kernel
theorem dX3_firstRoll_35 : decode cX3_firstRoll 35 = .ok (.istore 4, 2) := by decide +kernel
theorem dX3_firstRoll_37 : decode cX3_firstRoll 37 = .ok (.iload 4, 2) := by decide +kernel
theorem dX3_firstRoll_39 : decode cX3_firstRoll 39 = .ok (.iconst (-1), 1) := by decide +kernel
theorem dX3_firstRoll_40 : decode cX3_firstRoll 40 = .ok (.if_icmp .eq 8, 3) := by decide +kernel
theorem dX3_firstRoll_43 : decode cX3_firstRoll 43 = .ok (.iload 4, 2) := by decide +kernel
theorem dX3_firstRoll_45 : decode cX3_firstRoll 45 = .ok (.ifCond .ne 5, 3) := by decide +kernel
theorem dX3_firstRoll_48 : decode cX3_firstRoll 48 = .ok (.iconst (-1), 1) := by decide +kernel
theorem dX3_firstRoll_49 : decode cX3_firstRoll 49 = .ok (.ireturn, 1) := by decide +kernel
theorem dX3_firstRoll_50 : decode cX3_firstRoll 50 = .ok (.iconst 0, 1) := by decide +kernel
theorem dX3_firstRoll_51 : decode cX3_firstRoll 51 = .ok (.istore 5, 2) := by decide +kernel
theorem dX3_firstRoll_53 : decode cX3_firstRoll 53 = .ok (.iload 5, 2) := by decide +kernel
theorem dX3_firstRoll_55 : decode cX3_firstRoll 55 = .ok (.iconst 4, 1) := by decide +kernel
theorem dX3_firstRoll_56 : decode cX3_firstRoll 56 = .ok (.if_icmp .ge 58, 3) := by decide +kernel
theorem dX3_firstRoll_59 : decode cX3_firstRoll 59 = .ok (.aload_n 0, 1) := by decide +kernel
theorem dX3_firstRoll_60 : decode cX3_firstRoll 60 = .ok (.getfield 12, 3) := by decide +kernel
theorem dX3_firstRoll_63 : decode cX3_firstRoll 63 = .ok (.aload_n 0, 1) := by decide +kernel
theorem dX3_firstRoll_64 : decode cX3_firstRoll 64 = .ok (.getfield 52, 3) := by decide +kernel
theorem dX3_firstRoll_67 : decode cX3_firstRoll 67 = .ok (.iload 5, 2) := by decide +kernel
theorem dX3_firstRoll_69 : decode cX3_firstRoll 69 = .ok (.invokevirtual 130, 3) := by decide +kernel
theorem dX3_firstRoll_72 : decode cX3_firstRoll 72 = .ok (.istore 6, 2) := by decide +kernel
theorem dX3_firstRoll_74 : decode cX3_firstRoll 74 = .ok (.iload 6, 2) := by decide +kernel
theorem dX3_firstRoll_76 : decode cX3_firstRoll 76 = .ok (.iconst (-1), 1) := by decide +kernel
theorem dX3_firstRoll_77 : decode cX3_firstRoll 77 = .ok (.if_icmp .eq 31, 3) := by decide +kernel
theorem dX3_firstRoll_80 : decode cX3_firstRoll 80 = .ok (.aload_n 0, 1) := by decide +kernel
theorem dX3_firstRoll_81 : decode cX3_firstRoll 81 = .ok (.getfield 19, 3) := by decide +kernel
theorem dX3_firstRoll_84 : decode cX3_firstRoll 84 = .ok (.iload 6, 2) := by decide +kernel
theorem dX3_firstRoll_86 : decode cX3_firstRoll 86 = .ok (.aload_n 0, 1) := by decide +kernel
theorem dX3_firstRoll_87 : decode cX3_firstRoll 87 = .ok (.getfield 96, 3) := by decide +kernel
theorem dX3_firstRoll_90 : decode cX3_firstRoll 90 = .ok (.iload 5, 2) := by decide +kernel
theorem dX3_firstRoll_92 : decode cX3_firstRoll 92 = .ok (.invokestatic 171, 3) := by decide +kernel
theorem dX3_firstRoll_95 : decode cX3_firstRoll 95 = .ok (.invokevirtual 168, 3) := by decide +kernel
theorem dX3_firstRoll_98 : decode cX3_firstRoll 98 = .ok (.iload 4, 2) := by decide +kernel
theorem dX3_firstRoll_100 : decode cX3_firstRoll 100 = .ok (.iconst 1, 1) := by decide +kernel
theorem dX3_firstRoll_101 : decode cX3_firstRoll 101 = .ok (.isub, 1) := by decide +kernel
theorem dX3_firstRoll_102 : decode cX3_firstRoll 102 = .ok (.if_icmp .ne 6, 3) := by decide +kernel
theorem dX3_firstRoll_105 : decode cX3_firstRoll 105 = .ok (.iload 5, 2) := by decide +kernel
theorem dX3_firstRoll_107 : decode cX3_firstRoll 107 = .ok (.ireturn, 1) := by decide +kernel
theorem dX3_firstRoll_108 : decode cX3_firstRoll 108 = .ok (.iinc 5 1, 3) := by decide +kernel
theorem dX3_firstRoll_111 : decode cX3_firstRoll 111 = .ok (.goto (-58), 3) := by decide +kernel
theorem dX3_firstRoll_114 : decode cX3_firstRoll 114 = .ok (.iconst (-1), 1) := by decide +kernel
theorem dX3_firstRoll_115 : decode cX3_firstRoll 115 = .ok (.ireturn, 1) := by decide +kernel
set_option maxRecDepth 20000 in
theorem ggX3_topsAt_X3_checkCell : GoodIn wsX3_topsAt wsX3_checkCell := goodIn_ca (goodIn_r _ [6, 7, 8, 9, 10, 11, 12, 13, 14, 15, 94, 95, 96, 97, 98, 99, 100, 101, 102, 103, 104, 105] (by decide +kernel) (by decide +kernel)) (goodIn_sub (fun _ h => List.mem_cons_of_mem _ (List.mem_append_right _ h)) (by decide +kernel))
set_option maxRecDepth 20000 in
theorem gX3_topsAt_X3_checkCell : GoodIn wsX3_topsAt (wsV RX3 45 RX3 yX3_checkCell wsX3_checkCell) := goodIn_app (goodIn_of _ (by decide +kernel)) ggX3_topsAt_X3_checkCell
set_option maxRecDepth 20000 in
theorem ggX3_topsAt_X3_searchFromHere : GoodIn wsX3_topsAt wsX3_searchFromHere := goodIn_r _ [19, 1, 20, 21, 9, 22, 23, 24, 25, 26, 27, 28, 29, 30, 31, 32, 33, 34, 35, 36, 37, 38, 39, 40, 41, 42, 43, 11, 44, 45, 46, 47, 48, 49, 50, 51, 52, 53, 54, 55, 56, 57, 10, 12, 13, 14, 15, 58, 59, 60, 61, 62, 63, 64, 65, 66, 67, 68, 69, 70, 71, 72, 73, 74, 75, 76, 77, 78, 79, 94, 95, 96, 97, 98, 99, 100, 101, 106, 107, 108, 102, 103, 104, 105] (by decide +kernel) (by decide +kernel)
set_option maxRecDepth 20000 in
theorem gX3_topsAt_X3_searchFromHere : GoodIn wsX3_topsAt (wsV RX3 156 RX3 yX3_searchFromHere wsX3_searchFromHere) := goodIn_app (goodIn_of _ (by decide +kernel)) ggX3_topsAt_X3_searchFromHere
set_option maxRecDepth 20000 in
theorem ggX3_topsAt_X0_cellAt : GoodIn wsX3_topsAt wsX0_cellAt := goodIn_r _ [60] (by decide +kernel) (by decide +kernel)
set_option maxRecDepth 20000 in
theorem gX3_topsAt_X0_cellAt_n48 : GoodIn wsX3_topsAt (wsX0_cellAt) := ggX3_topsAt_X0_cellAt
set_option maxRecDepth 20000 in
theorem ggX3_topsAt_X1_countTops : GoodIn wsX3_topsAt wsX1_countTops := goodIn_r _ [82, 83, 84, 85, 23, 86, 71, 62, 72, 39, 40, 41, 42, 26, 87, 88, 89, 90, 91, 92, 93, 106, 107, 108] (by decide +kernel) (by decide +kernel)
set_option maxRecDepth 20000 in
theorem gX3_topsAt_X1_countTops_n174 : GoodIn wsX3_topsAt (wsX1_countTops) := ggX3_topsAt_X1_countTops
theorem dX3_topsAt_0 : decode cX3_topsAt 0 = .ok (.aload_n 0, 1) := by decide +kernel
theorem dX3_topsAt_1 : decode cX3_topsAt 1 = .ok (.iload_n 1, 1) := by decide +kernel
theorem dX3_topsAt_2 : decode cX3_topsAt 2 = .ok (.iload_n 2, 1) := by decide +kernel
theorem dX3_topsAt_3 : decode cX3_topsAt 3 = .ok (.invokevirtual 45, 3) := by decide +kernel
theorem dX3_topsAt_6 : decode cX3_topsAt 6 = .ok (.aload_n 0, 1) := by decide +kernel
theorem dX3_topsAt_7 : decode cX3_topsAt 7 = .ok (.invokevirtual 156, 3) := by decide +kernel
theorem dX3_topsAt_10 : decode cX3_topsAt 10 = .ok (.aload_n 0, 1) := by decide +kernel
theorem dX3_topsAt_11 : decode cX3_topsAt 11 = .ok (.getfield 19, 3) := by decide +kernel
theorem dX3_topsAt_14 : decode cX3_topsAt 14 = .ok (.iload_n 1, 1) := by decide +kernel
theorem dX3_topsAt_15 : decode cX3_topsAt 15 = .ok (.iload_n 2, 1) := by decide +kernel
theorem dX3_topsAt_16 : decode cX3_topsAt 16 = .ok (.invokestatic 48, 3) := by decide +kernel
theorem dX3_topsAt_19 : decode cX3_topsAt 19 = .ok (.invokevirtual 174, 3) := by decide +kernel
theorem dX3_topsAt_22 : decode cX3_topsAt 22 = .ok (.ireturn, 1) := by decide +kernel
set_option maxRecDepth 20000 in
theorem ggX3_cellsWithinReach_X3_searchFromHere : GoodIn wsX3_cellsWithinReach wsX3_searchFromHere := goodIn_r _ [6, 1, 7, 8, 9, 10, 11, 12, 13, 14, 15, 16, 17, 18, 19, 20, 21, 22, 23, 24, 25, 26, 27, 28, 29, 30, 31, 32, 33, 34, 35, 36, 37, 38, 39, 40, 41, 42, 43, 44, 45, 46, 47, 48, 49, 50, 51, 52, 53, 54, 55, 56, 57, 58, 59, 60, 61, 62, 63, 64, 65, 66, 67, 68, 69, 70, 71, 72, 73, 88, 89, 90, 91, 92, 93, 94, 95, 96, 97, 98, 99, 100, 101, 102] (by decide +kernel) (by decide +kernel)
set_option maxRecDepth 20000 in
theorem gX3_cellsWithinReach_X3_searchFromHere : GoodIn wsX3_cellsWithinReach (wsV RX3 156 RX3 yX3_searchFromHere wsX3_searchFromHere) := goodIn_app (goodIn_of _ (by decide +kernel)) ggX3_cellsWithinReach_X3_searchFromHere
set_option maxRecDepth 20000 in
theorem ggX3_cellsWithinReach_X1_fewestTo : GoodIn wsX3_cellsWithinReach wsX1_fewestTo := goodIn_r _ [76, 77, 78, 79, 11, 80, 65, 56, 66, 27, 28, 29, 30, 14, 81, 82, 83, 84, 85, 86, 87, 96, 97, 98] (by decide +kernel) (by decide +kernel)
set_option maxRecDepth 20000 in
theorem gX3_cellsWithinReach_X1_fewestTo_n159 : GoodIn wsX3_cellsWithinReach (wsX1_fewestTo) := ggX3_cellsWithinReach_X1_fewestTo
theorem dX3_cellsWithinReach_0 : decode cX3_cellsWithinReach 0 = .ok (.aload_n 0, 1) := by decide +kernel
theorem dX3_cellsWithinReach_1 : decode cX3_cellsWithinReach 1 = .ok (.invokevirtual 156, 3) := by decide +kernel
theorem dX3_cellsWithinReach_4 : decode cX3_cellsWithinReach 4 = .ok (.iconst 0, 1) := by decide +kernel
theorem dX3_cellsWithinReach_5 : decode cX3_cellsWithinReach 5 = .ok (.istore_n 1, 1) := by decide +kernel
theorem dX3_cellsWithinReach_6 : decode cX3_cellsWithinReach 6 = .ok (.iconst 0, 1) := by decide +kernel
theorem dX3_cellsWithinReach_7 : decode cX3_cellsWithinReach 7 = .ok (.istore_n 2, 1) := by decide +kernel
theorem dX3_cellsWithinReach_8 : decode cX3_cellsWithinReach 8 = .ok (.iload_n 2, 1) := by decide +kernel
theorem dX3_cellsWithinReach_9 : decode cX3_cellsWithinReach 9 = .ok (.bipush 49, 2) := by decide +kernel
theorem dX3_cellsWithinReach_11 : decode cX3_cellsWithinReach 11 = .ok (.if_icmp .ge 24, 3) := by decide +kernel
theorem dX3_cellsWithinReach_14 : decode cX3_cellsWithinReach 14 = .ok (.aload_n 0, 1) := by decide +kernel
theorem dX3_cellsWithinReach_15 : decode cX3_cellsWithinReach 15 = .ok (.getfield 19, 3) := by decide +kernel
theorem dX3_cellsWithinReach_18 : decode cX3_cellsWithinReach 18 = .ok (.iload_n 2, 1) := by decide +kernel
theorem dX3_cellsWithinReach_19 : decode cX3_cellsWithinReach 19 = .ok (.invokevirtual 159, 3) := by decide +kernel
theorem dX3_cellsWithinReach_22 : decode cX3_cellsWithinReach 22 = .ok (.iconst (-1), 1) := by decide +kernel
theorem dX3_cellsWithinReach_23 : decode cX3_cellsWithinReach 23 = .ok (.if_icmp .eq 6, 3) := by decide +kernel
theorem dX3_cellsWithinReach_26 : decode cX3_cellsWithinReach 26 = .ok (.iinc 1 1, 3) := by decide +kernel
theorem dX3_cellsWithinReach_29 : decode cX3_cellsWithinReach 29 = .ok (.iinc 2 1, 3) := by decide +kernel
theorem dX3_cellsWithinReach_32 : decode cX3_cellsWithinReach 32 = .ok (.goto (-24), 3) := by decide +kernel
theorem dX3_cellsWithinReach_35 : decode cX3_cellsWithinReach 35 = .ok (.iload_n 1, 1) := by decide +kernel
theorem dX3_cellsWithinReach_36 : decode cX3_cellsWithinReach 36 = .ok (.ireturn, 1) := by decide +kernel
set_option maxRecDepth 20000 in
theorem ggX3_waysToLie_X3_searchFromHere : GoodIn wsX3_waysToLie wsX3_searchFromHere := goodIn_r _ [6, 1, 7, 8, 9, 10, 11, 12, 13, 14, 15, 16, 17, 18, 19, 20, 21, 22, 23, 24, 25, 26, 27, 28, 29, 30, 31, 32, 33, 34, 35, 36, 37, 38, 39, 40, 41, 42, 43, 44, 45, 46, 47, 48, 49, 50, 51, 52, 53, 54, 55, 56, 57, 58, 59, 60, 61, 62, 63, 64, 65, 66, 67, 68, 69, 70, 71, 72, 73, 74, 75, 76, 77, 78, 79, 80, 81, 82, 83, 84, 85, 86, 87, 88] (by decide +kernel) (by decide +kernel)
set_option maxRecDepth 20000 in
theorem gX3_waysToLie_X3_searchFromHere : GoodIn wsX3_waysToLie (wsV RX3 156 RX3 yX3_searchFromHere wsX3_searchFromHere) := goodIn_app (goodIn_of _ (by decide +kernel)) ggX3_waysToLie_X3_searchFromHere
theorem dX3_waysToLie_0 : decode cX3_waysToLie 0 = .ok (.aload_n 0, 1) := by decide +kernel
theorem dX3_waysToLie_1 : decode cX3_waysToLie 1 = .ok (.invokevirtual 156, 3) := by decide +kernel
theorem dX3_waysToLie_4 : decode cX3_waysToLie 4 = .ok (.aload_n 0, 1) := by decide +kernel
theorem dX3_waysToLie_5 : decode cX3_waysToLie 5 = .ok (.getfield 19, 3) := by decide +kernel
theorem dX3_waysToLie_8 : decode cX3_waysToLie 8 = .ok (.getfield 177, 3) := by decide +kernel
theorem dX3_waysToLie_11 : decode cX3_waysToLie 11 = .ok (.ireturn, 1) := by decide +kernel
set_option maxRecDepth 20000 in
theorem ggX3_cellsBehind_X3_isShutIn : GoodIn wsX3_cellsBehind wsX3_isShutIn := goodIn_r _ [8, 9, 10, 11, 12, 13, 14, 15, 16, 17, 18, 19, 20, 21, 22, 23, 24, 25, 26, 27, 28, 29, 30, 31, 32, 33, 34, 94, 95, 96, 97, 98, 99, 100, 101, 102, 103, 104, 105] (by decide +kernel) (by decide +kernel)
set_option maxRecDepth 20000 in
theorem gX3_cellsBehind_X3_isShutIn : GoodIn wsX3_cellsBehind (wsV RX3 182 RX3 yX3_isShutIn wsX3_isShutIn) := goodIn_app (goodIn_of _ (by decide +kernel)) ggX3_cellsBehind_X3_isShutIn
set_option maxRecDepth 20000 in
theorem ggX3_cellsBehind_X3_searchFromHere : GoodIn wsX3_cellsBehind wsX3_searchFromHere := goodIn_r _ [38, 3, 10, 39, 9, 40, 41, 42, 43, 44, 45, 46, 47, 48, 49, 50, 51, 52, 53, 54, 55, 56, 57, 58, 59, 60, 11, 12, 13, 14, 15, 16, 17, 18, 19, 20, 21, 22, 23, 24, 25, 26, 27, 28, 29, 30, 31, 32, 33, 34, 61, 62, 63, 64, 65, 66, 67, 68, 69, 70, 71, 72, 73, 74, 75, 76, 77, 78, 79, 94, 95, 96, 97, 98, 99, 100, 101, 106, 107, 108, 102, 103, 104, 105] (by decide +kernel) (by decide +kernel)
set_option maxRecDepth 20000 in
theorem gX3_cellsBehind_X3_searchFromHere : GoodIn wsX3_cellsBehind (wsV RX3 156 RX3 yX3_searchFromHere wsX3_searchFromHere) := goodIn_app (goodIn_of _ (by decide +kernel)) ggX3_cellsBehind_X3_searchFromHere
set_option maxRecDepth 20000 in
theorem ggX3_cellsBehind_X1_fewestTo : GoodIn wsX3_cellsBehind wsX1_fewestTo := goodIn_r _ [82, 83, 84, 85, 41, 86, 71, 62, 72, 57, 58, 59, 60, 44, 87, 88, 89, 90, 91, 92, 93, 106, 107, 108] (by decide +kernel) (by decide +kernel)
set_option maxRecDepth 20000 in
theorem gX3_cellsBehind_X1_fewestTo_n159 : GoodIn wsX3_cellsBehind (wsX1_fewestTo) := ggX3_cellsBehind_X1_fewestTo
theorem dX3_cellsBehind_0 : decode cX3_cellsBehind 0 = .ok (.iload_n 1, 1) := by decide +kernel
theorem dX3_cellsBehind_1 : decode cX3_cellsBehind 1 = .ok (.ifCond .lt 9, 3) := by decide +kernel
theorem dX3_cellsBehind_4 : decode cX3_cellsBehind 4 = .ok (.iload_n 1, 1) := by decide +kernel
theorem dX3_cellsBehind_5 : decode cX3_cellsBehind 5 = .ok (.bipush 20, 2) := by decide +kernel
theorem dX3_cellsBehind_7 : decode cX3_cellsBehind 7 = .ok (.if_icmp .le 13, 3) := by decide +kernel
theorem dX3_cellsBehind_10 : decode cX3_cellsBehind 10 = .ok (.new 38, 3) := by decide +kernel
theorem dX3_cellsBehind_13 : decode cX3_cellsBehind 13 = .ok (.dup, 1) := by decide +kernel
theorem dX3_cellsBehind_14 : decode cX3_cellsBehind 14 = .ok (.ldc 180, 2) := by decide +kernel
theorem dX3_cellsBehind_16 : decode cX3_cellsBehind 16 = .ok (.invokespecial 42, 3) := by decide +kernel
theorem dX3_cellsBehind_19 : decode cX3_cellsBehind 19 = .ok (.athrow, 1) := by decide +kernel
theorem dX3_cellsBehind_20 : decode cX3_cellsBehind 20 = .ok (.iload_n 1, 1) := by decide +kernel
theorem dX3_cellsBehind_21 : decode cX3_cellsBehind 21 = .ok (.ifCond .le 12, 3) := by decide +kernel
theorem dX3_cellsBehind_24 : decode cX3_cellsBehind 24 = .ok (.aload_n 0, 1) := by decide +kernel
theorem dX3_cellsBehind_25 : decode cX3_cellsBehind 25 = .ok (.invokevirtual 182, 3) := by decide +kernel
theorem dX3_cellsBehind_28 : decode cX3_cellsBehind 28 = .ok (.ifCond .eq 5, 3) := by decide +kernel
theorem dX3_cellsBehind_31 : decode cX3_cellsBehind 31 = .ok (.iconst 0, 1) := by decide +kernel
theorem dX3_cellsBehind_32 : decode cX3_cellsBehind 32 = .ok (.ireturn, 1) := by decide +kernel
theorem dX3_cellsBehind_33 : decode cX3_cellsBehind 33 = .ok (.aload_n 0, 1) := by decide +kernel
theorem dX3_cellsBehind_34 : decode cX3_cellsBehind 34 = .ok (.invokevirtual 156, 3) := by decide +kernel
theorem dX3_cellsBehind_37 : decode cX3_cellsBehind 37 = .ok (.iconst 0, 1) := by decide +kernel
theorem dX3_cellsBehind_38 : decode cX3_cellsBehind 38 = .ok (.istore_n 2, 1) := by decide +kernel
theorem dX3_cellsBehind_39 : decode cX3_cellsBehind 39 = .ok (.iconst 0, 1) := by decide +kernel
theorem dX3_cellsBehind_40 : decode cX3_cellsBehind 40 = .ok (.istore_n 3, 1) := by decide +kernel
theorem dX3_cellsBehind_41 : decode cX3_cellsBehind 41 = .ok (.iload_n 3, 1) := by decide +kernel
theorem dX3_cellsBehind_42 : decode cX3_cellsBehind 42 = .ok (.bipush 49, 2) := by decide +kernel
theorem dX3_cellsBehind_44 : decode cX3_cellsBehind 44 = .ok (.if_icmp .ge 43, 3) := by decide +kernel
theorem dX3_cellsBehind_47 : decode cX3_cellsBehind 47 = .ok (.aload_n 0, 1) := by decide +kernel
theorem dX3_cellsBehind_48 : decode cX3_cellsBehind 48 = .ok (.getfield 19, 3) := by decide +kernel
theorem dX3_cellsBehind_51 : decode cX3_cellsBehind 51 = .ok (.iload_n 3, 1) := by decide +kernel
theorem dX3_cellsBehind_52 : decode cX3_cellsBehind 52 = .ok (.invokevirtual 159, 3) := by decide +kernel
theorem dX3_cellsBehind_55 : decode cX3_cellsBehind 55 = .ok (.istore 4, 2) := by decide +kernel
theorem dX3_cellsBehind_57 : decode cX3_cellsBehind 57 = .ok (.iload 4, 2) := by decide +kernel
theorem dX3_cellsBehind_59 : decode cX3_cellsBehind 59 = .ok (.iconst (-1), 1) := by decide +kernel
theorem dX3_cellsBehind_60 : decode cX3_cellsBehind 60 = .ok (.if_icmp .eq 21, 3) := by decide +kernel
theorem dX3_cellsBehind_63 : decode cX3_cellsBehind 63 = .ok (.iload 4, 2) := by decide +kernel
theorem dX3_cellsBehind_65 : decode cX3_cellsBehind 65 = .ok (.iload_n 1, 1) := by decide +kernel
theorem dX3_cellsBehind_66 : decode cX3_cellsBehind 66 = .ok (.if_icmp .gt 15, 3) := by decide +kernel
theorem dX3_cellsBehind_69 : decode cX3_cellsBehind 69 = .ok (.iload_n 1, 1) := by decide +kernel
theorem dX3_cellsBehind_70 : decode cX3_cellsBehind 70 = .ok (.iload 4, 2) := by decide +kernel
theorem dX3_cellsBehind_72 : decode cX3_cellsBehind 72 = .ok (.isub, 1) := by decide +kernel
theorem dX3_cellsBehind_73 : decode cX3_cellsBehind 73 = .ok (.iconst 2, 1) := by decide +kernel
theorem dX3_cellsBehind_74 : decode cX3_cellsBehind 74 = .ok (.irem, 1) := by decide +kernel
theorem dX3_cellsBehind_75 : decode cX3_cellsBehind 75 = .ok (.ifCond .ne 6, 3) := by decide +kernel
theorem dX3_cellsBehind_78 : decode cX3_cellsBehind 78 = .ok (.iinc 2 1, 3) := by decide +kernel
theorem dX3_cellsBehind_81 : decode cX3_cellsBehind 81 = .ok (.iinc 3 1, 3) := by decide +kernel
theorem dX3_cellsBehind_84 : decode cX3_cellsBehind 84 = .ok (.goto (-43), 3) := by decide +kernel
theorem dX3_cellsBehind_87 : decode cX3_cellsBehind 87 = .ok (.iload_n 2, 1) := by decide +kernel
theorem dX3_cellsBehind_88 : decode cX3_cellsBehind 88 = .ok (.ireturn, 1) := by decide +kernel
theorem dX3_meanPaint_0 : decode cX3_meanPaint 0 = .ok (.iconst 0, 1) := by decide +kernel
theorem dX3_meanPaint_1 : decode cX3_meanPaint 1 = .ok (.istore_n 1, 1) := by decide +kernel
theorem dX3_meanPaint_2 : decode cX3_meanPaint 2 = .ok (.iconst 1, 1) := by decide +kernel
theorem dX3_meanPaint_3 : decode cX3_meanPaint 3 = .ok (.istore_n 2, 1) := by decide +kernel
theorem dX3_meanPaint_4 : decode cX3_meanPaint 4 = .ok (.iload_n 2, 1) := by decide +kernel
theorem dX3_meanPaint_5 : decode cX3_meanPaint 5 = .ok (.bipush 6, 2) := by decide +kernel
theorem dX3_meanPaint_7 : decode cX3_meanPaint 7 = .ok (.if_icmp .gt 18, 3) := by decide +kernel
theorem dX3_meanPaint_10 : decode cX3_meanPaint 10 = .ok (.iload_n 1, 1) := by decide +kernel
theorem dX3_meanPaint_11 : decode cX3_meanPaint 11 = .ok (.aload_n 0, 1) := by decide +kernel
theorem dX3_meanPaint_12 : decode cX3_meanPaint 12 = .ok (.getfield 27, 3) := by decide +kernel
theorem dX3_meanPaint_15 : decode cX3_meanPaint 15 = .ok (.iload_n 2, 1) := by decide +kernel
theorem dX3_meanPaint_16 : decode cX3_meanPaint 16 = .ok (.iaload, 1) := by decide +kernel
theorem dX3_meanPaint_17 : decode cX3_meanPaint 17 = .ok (.iadd, 1) := by decide +kernel
theorem dX3_meanPaint_18 : decode cX3_meanPaint 18 = .ok (.istore_n 1, 1) := by decide +kernel
theorem dX3_meanPaint_19 : decode cX3_meanPaint 19 = .ok (.iinc 2 1, 3) := by decide +kernel
theorem dX3_meanPaint_22 : decode cX3_meanPaint 22 = .ok (.goto (-18), 3) := by decide +kernel
theorem dX3_meanPaint_25 : decode cX3_meanPaint 25 = .ok (.iload_n 1, 1) := by decide +kernel
theorem dX3_meanPaint_26 : decode cX3_meanPaint 26 = .ok (.i2d, 1) := by decide +kernel
theorem dX3_meanPaint_27 : decode cX3_meanPaint 27 = .ok (.ldc2_w 186, 3) := by decide +kernel
theorem dX3_meanPaint_30 : decode cX3_meanPaint 30 = .ok (.ddiv, 1) := by decide +kernel
theorem dX3_meanPaint_31 : decode cX3_meanPaint 31 = .ok (.dreturn, 1) := by decide +kernel
set_option maxRecDepth 20000 in
theorem ggX3_digest_X3_width : GoodIn wsX3_digest wsX3_width := goodIn_r _ [9, 10, 149, 150, 151, 152, 153, 154, 155, 156, 157, 158, 159, 160] (by decide +kernel) (by decide +kernel)
set_option maxRecDepth 20000 in
theorem gX3_digest_X3_width : GoodIn wsX3_digest (wsV RX3 190 RX3 yX3_width wsX3_width) := goodIn_app (goodIn_of _ (by decide +kernel)) ggX3_digest_X3_width
set_option maxRecDepth 20000 in
theorem ggX3_digest_X3_joined : GoodIn wsX3_digest wsX3_joined := goodIn_r _ [13, 14] (by decide +kernel) (by decide +kernel)
set_option maxRecDepth 20000 in
theorem gX3_digest_X3_joined : GoodIn wsX3_digest (va_wsS RX3 192 yX3_joined wsX3_joined) := goodIn_app (goodIn_of _ (by decide +kernel)) ggX3_digest_X3_joined
set_option maxRecDepth 20000 in
theorem ggX3_digest_X3_height : GoodIn wsX3_digest wsX3_height := goodIn_r _ [18, 10, 149, 150, 151, 152, 153, 154, 155, 156, 157, 158, 159, 160] (by decide +kernel) (by decide +kernel)
set_option maxRecDepth 20000 in
theorem gX3_digest_X3_height : GoodIn wsX3_digest (wsV RX3 196 RX3 yX3_height wsX3_height) := goodIn_app (goodIn_of _ (by decide +kernel)) ggX3_digest_X3_height
set_option maxRecDepth 20000 in
theorem ggX3_digest_X3_walls : GoodIn wsX3_digest wsX3_walls := goodIn_r _ [22, 10, 23, 24, 25, 26, 27, 149, 150, 151, 152, 153, 154, 155, 156, 157, 158, 159, 160] (by decide +kernel) (by decide +kernel)
set_option maxRecDepth 20000 in
theorem gX3_digest_X3_walls : GoodIn wsX3_digest (wsV RX3 198 RX3 yX3_walls wsX3_walls) := goodIn_app (goodIn_of _ (by decide +kernel)) ggX3_digest_X3_walls
set_option maxRecDepth 20000 in
theorem ggX3_digest_X3_rolls : GoodIn wsX3_digest wsX3_rolls := goodIn_r _ [31, 32, 149, 150, 151, 152, 153, 154, 155, 156] (by decide +kernel) (by decide +kernel)
set_option maxRecDepth 20000 in
theorem gX3_digest_X3_rolls : GoodIn wsX3_digest (wsV RX3 201 RX3 yX3_rolls wsX3_rolls) := goodIn_app (goodIn_of _ (by decide +kernel)) ggX3_digest_X3_rolls
set_option maxRecDepth 20000 in
theorem ggX3_digest_X3_prints : GoodIn wsX3_digest wsX3_prints := goodIn_r _ [36, 37, 149, 150, 151, 152, 153, 154, 155, 156] (by decide +kernel) (by decide +kernel)
set_option maxRecDepth 20000 in
theorem gX3_digest_X3_prints : GoodIn wsX3_digest (wsV RX3 204 RX3 yX3_prints wsX3_prints) := goodIn_app (goodIn_of _ (by decide +kernel)) ggX3_digest_X3_prints
set_option maxRecDepth 20000 in
theorem ggX3_digest_X3_column : GoodIn wsX3_digest wsX3_column := goodIn_r _ [41, 42, 43, 24, 44, 149, 150, 151, 152, 153, 154, 155, 156] (by decide +kernel) (by decide +kernel)
set_option maxRecDepth 20000 in
theorem gX3_digest_X3_column : GoodIn wsX3_digest (wsV RX3 83 RX3 yX3_column wsX3_column) := goodIn_app (goodIn_of _ (by decide +kernel)) ggX3_digest_X3_column
set_option maxRecDepth 20000 in
theorem ggX3_digest_X3_row : GoodIn wsX3_digest wsX3_row := goodIn_r _ [48, 42, 49, 24, 50, 149, 150, 151, 152, 153, 154, 155, 156] (by decide +kernel) (by decide +kernel)
set_option maxRecDepth 20000 in
theorem gX3_digest_X3_row : GoodIn wsX3_digest (wsV RX3 91 RX3 yX3_row wsX3_row) := goodIn_app (goodIn_of _ (by decide +kernel)) ggX3_digest_X3_row
set_option maxRecDepth 20000 in
theorem ggX3_digest_X3_top : GoodIn wsX3_digest wsX3_top := goodIn_r _ [54, 2, 55, 56, 57, 149, 150, 151, 152, 153, 154, 155, 156] (by decide +kernel) (by decide +kernel)
set_option maxRecDepth 20000 in
theorem gX3_digest_X3_top : GoodIn wsX3_digest (wsV RX3 121 RX3 yX3_top wsX3_top) := goodIn_app (goodIn_of _ (by decide +kernel)) ggX3_digest_X3_top
set_option maxRecDepth 20000 in
theorem ggX3_digest_X3_bottom : GoodIn wsX3_digest wsX3_bottom := goodIn_r _ [61, 51, 52, 53, 8, 54, 2, 55, 56, 57, 149, 150, 151, 152, 153, 154, 155, 156] (by decide +kernel) (by decide +kernel)
set_option maxRecDepth 20000 in
theorem gX3_digest_X3_bottom : GoodIn wsX3_digest (wsV RX3 107 RX3 yX3_bottom wsX3_bottom) := goodIn_app (goodIn_of _ (by decide +kernel)) ggX3_digest_X3_bottom
set_option maxRecDepth 20000 in
theorem ggX3_digest_X2_faceOn : GoodIn wsX3_digest wsX2_faceOn := goodIn_r _ [63, 64, 65, 56, 66, 67, 68, 69, 70, 55, 57, 71, 72, 73] (by decide +kernel) (by decide +kernel)
set_option maxRecDepth 20000 in
theorem gX3_digest_X2_faceOn_n124 : GoodIn wsX3_digest (wsX2_faceOn) := ggX3_digest_X2_faceOn
set_option maxRecDepth 20000 in
theorem ggX3_digest_X3_joinedWithCells : GoodIn wsX3_digest wsX3_joinedWithCells := goodIn_r _ [77, 10, 78, 79, 80, 81, 8, 82, 42, 2, 83, 84, 85, 86, 87, 88, 89, 90, 91, 92, 93, 94, 95, 96, 97, 98, 99, 100, 101, 102, 103, 104, 24, 105, 106, 107, 43, 44, 108, 49, 50, 109, 110, 111, 112, 27, 113, 114, 115, 116, 117, 118, 119, 120, 121, 122, 56, 123, 70, 55, 57, 64, 65, 66, 124, 125, 126, 67, 68, 69, 71, 72, 73, 127, 11, 12, 13, 14, 128, 129, 130, 131, 132, 133, 134, 135, 136, 137, 138, 139, 140, 141, 142, 143, 144, 145, 146, 147, 148, 149, 150, 151, 152, 153, 154, 155, 156, 157, 158, 159, 160, 161, 162, 163] (by decide +kernel) (by decide +kernel)
set_option maxRecDepth 20000 in
theorem gX3_digest_X3_joinedWithCells : GoodIn wsX3_digest (wsV RX3 207 RX3 yX3_joinedWithCells wsX3_joinedWithCells) := goodIn_app (goodIn_of _ (by decide +kernel)) ggX3_digest_X3_joinedWithCells
theorem dX3_digest_0 : decode cX3_digest 0 = .ok (.ldc2_w 188, 3) := by decide +kernel
theorem dX3_digest_3 : decode cX3_digest 3 = .ok (.lstore_n 1, 1) := by decide +kernel
theorem dX3_digest_4 : decode cX3_digest 4 = .ok (.lload_n 1, 1) := by decide +kernel
theorem dX3_digest_5 : decode cX3_digest 5 = .ok (.aload_n 0, 1) := by decide +kernel
theorem dX3_digest_6 : decode cX3_digest 6 = .ok (.invokevirtual 190, 3) := by decide +kernel
theorem dX3_digest_9 : decode cX3_digest 9 = .ok (.invokestatic 192, 3) := by decide +kernel
theorem dX3_digest_12 : decode cX3_digest 12 = .ok (.lstore_n 1, 1) := by decide +kernel
theorem dX3_digest_13 : decode cX3_digest 13 = .ok (.lload_n 1, 1) := by decide +kernel
theorem dX3_digest_14 : decode cX3_digest 14 = .ok (.aload_n 0, 1) := by decide +kernel
theorem dX3_digest_15 : decode cX3_digest 15 = .ok (.invokevirtual 196, 3) := by decide +kernel
theorem dX3_digest_18 : decode cX3_digest 18 = .ok (.invokestatic 192, 3) := by decide +kernel
theorem dX3_digest_21 : decode cX3_digest 21 = .ok (.lstore_n 1, 1) := by decide +kernel
theorem dX3_digest_22 : decode cX3_digest 22 = .ok (.lload_n 1, 1) := by decide +kernel
theorem dX3_digest_23 : decode cX3_digest 23 = .ok (.aload_n 0, 1) := by decide +kernel
theorem dX3_digest_24 : decode cX3_digest 24 = .ok (.invokevirtual 198, 3) := by decide +kernel
theorem dX3_digest_27 : decode cX3_digest 27 = .ok (.invokestatic 192, 3) := by decide +kernel
theorem dX3_digest_30 : decode cX3_digest 30 = .ok (.lstore_n 1, 1) := by decide +kernel
theorem dX3_digest_31 : decode cX3_digest 31 = .ok (.lload_n 1, 1) := by decide +kernel
theorem dX3_digest_32 : decode cX3_digest 32 = .ok (.aload_n 0, 1) := by decide +kernel
theorem dX3_digest_33 : decode cX3_digest 33 = .ok (.invokevirtual 201, 3) := by decide +kernel
theorem dX3_digest_36 : decode cX3_digest 36 = .ok (.invokestatic 192, 3) := by decide +kernel
theorem dX3_digest_39 : decode cX3_digest 39 = .ok (.lstore_n 1, 1) := by decide +kernel
theorem dX3_digest_40 : decode cX3_digest 40 = .ok (.lload_n 1, 1) := by decide +kernel
theorem dX3_digest_41 : decode cX3_digest 41 = .ok (.aload_n 0, 1) := by decide +kernel
theorem dX3_digest_42 : decode cX3_digest 42 = .ok (.invokevirtual 204, 3) := by decide +kernel
theorem dX3_digest_45 : decode cX3_digest 45 = .ok (.invokestatic 192, 3) := by decide +kernel
theorem dX3_digest_48 : decode cX3_digest 48 = .ok (.lstore_n 1, 1) := by decide +kernel
theorem dX3_digest_49 : decode cX3_digest 49 = .ok (.lload_n 1, 1) := by decide +kernel
theorem dX3_digest_50 : decode cX3_digest 50 = .ok (.aload_n 0, 1) := by decide +kernel
theorem dX3_digest_51 : decode cX3_digest 51 = .ok (.invokevirtual 83, 3) := by decide +kernel
theorem dX3_digest_54 : decode cX3_digest 54 = .ok (.invokestatic 192, 3) := by decide +kernel
theorem dX3_digest_57 : decode cX3_digest 57 = .ok (.lstore_n 1, 1) := by decide +kernel
theorem dX3_digest_58 : decode cX3_digest 58 = .ok (.lload_n 1, 1) := by decide +kernel
theorem dX3_digest_59 : decode cX3_digest 59 = .ok (.aload_n 0, 1) := by decide +kernel
theorem dX3_digest_60 : decode cX3_digest 60 = .ok (.invokevirtual 91, 3) := by decide +kernel
theorem dX3_digest_63 : decode cX3_digest 63 = .ok (.invokestatic 192, 3) := by decide +kernel
theorem dX3_digest_66 : decode cX3_digest 66 = .ok (.lstore_n 1, 1) := by decide +kernel
theorem dX3_digest_67 : decode cX3_digest 67 = .ok (.lload_n 1, 1) := by decide +kernel
theorem dX3_digest_68 : decode cX3_digest 68 = .ok (.aload_n 0, 1) := by decide +kernel
theorem dX3_digest_69 : decode cX3_digest 69 = .ok (.invokevirtual 121, 3) := by decide +kernel
theorem dX3_digest_72 : decode cX3_digest 72 = .ok (.invokestatic 192, 3) := by decide +kernel
theorem dX3_digest_75 : decode cX3_digest 75 = .ok (.lstore_n 1, 1) := by decide +kernel
theorem dX3_digest_76 : decode cX3_digest 76 = .ok (.lload_n 1, 1) := by decide +kernel
theorem dX3_digest_77 : decode cX3_digest 77 = .ok (.aload_n 0, 1) := by decide +kernel
theorem dX3_digest_78 : decode cX3_digest 78 = .ok (.invokevirtual 107, 3) := by decide +kernel
theorem dX3_digest_81 : decode cX3_digest 81 = .ok (.invokestatic 192, 3) := by decide +kernel
theorem dX3_digest_84 : decode cX3_digest 84 = .ok (.lstore_n 1, 1) := by decide +kernel
theorem dX3_digest_85 : decode cX3_digest 85 = .ok (.iconst 0, 1) := by decide +kernel
theorem dX3_digest_86 : decode cX3_digest 86 = .ok (.istore_n 3, 1) := by decide +kernel
theorem dX3_digest_87 : decode cX3_digest 87 = .ok (.iload_n 3, 1) := by decide +kernel
theorem dX3_digest_88 : decode cX3_digest 88 = .ok (.iconst 4, 1) := by decide +kernel
theorem dX3_digest_89 : decode cX3_digest 89 = .ok (.if_icmp .ge 22, 3) := by decide +kernel
theorem dX3_digest_92 : decode cX3_digest 92 = .ok (.lload_n 1, 1) := by decide +kernel
theorem dX3_digest_93 : decode cX3_digest 93 = .ok (.aload_n 0, 1) := by decide +kernel
theorem dX3_digest_94 : decode cX3_digest 94 = .ok (.getfield 96, 3) := by decide +kernel
theorem dX3_digest_97 : decode cX3_digest 97 = .ok (.iload_n 3, 1) := by decide +kernel
theorem dX3_digest_98 : decode cX3_digest 98 = .ok (.invokestatic 124, 3) := by decide +kernel
theorem dX3_digest_101 : decode cX3_digest 101 = .ok (.invokestatic 192, 3) := by decide +kernel
theorem dX3_digest_104 : decode cX3_digest 104 = .ok (.lstore_n 1, 1) := by decide +kernel
theorem dX3_digest_105 : decode cX3_digest 105 = .ok (.iinc 3 1, 3) := by decide +kernel
theorem dX3_digest_108 : decode cX3_digest 108 = .ok (.goto (-21), 3) := by decide +kernel
theorem dX3_digest_111 : decode cX3_digest 111 = .ok (.iconst 1, 1) := by decide +kernel
theorem dX3_digest_112 : decode cX3_digest 112 = .ok (.istore_n 3, 1) := by decide +kernel
theorem dX3_digest_113 : decode cX3_digest 113 = .ok (.iload_n 3, 1) := by decide +kernel
theorem dX3_digest_114 : decode cX3_digest 114 = .ok (.bipush 6, 2) := by decide +kernel
theorem dX3_digest_116 : decode cX3_digest 116 = .ok (.if_icmp .gt 31, 3) := by decide +kernel
theorem dX3_digest_119 : decode cX3_digest 119 = .ok (.lload_n 1, 1) := by decide +kernel
theorem dX3_digest_120 : decode cX3_digest 120 = .ok (.aload_n 0, 1) := by decide +kernel
theorem dX3_digest_121 : decode cX3_digest 121 = .ok (.getfield 23, 3) := by decide +kernel
theorem dX3_digest_124 : decode cX3_digest 124 = .ok (.iload_n 3, 1) := by decide +kernel
theorem dX3_digest_125 : decode cX3_digest 125 = .ok (.iaload, 1) := by decide +kernel
theorem dX3_digest_126 : decode cX3_digest 126 = .ok (.invokestatic 192, 3) := by decide +kernel
theorem dX3_digest_129 : decode cX3_digest 129 = .ok (.lstore_n 1, 1) := by decide +kernel
theorem dX3_digest_130 : decode cX3_digest 130 = .ok (.lload_n 1, 1) := by decide +kernel
theorem dX3_digest_131 : decode cX3_digest 131 = .ok (.aload_n 0, 1) := by decide +kernel
theorem dX3_digest_132 : decode cX3_digest 132 = .ok (.getfield 27, 3) := by decide +kernel
theorem dX3_digest_135 : decode cX3_digest 135 = .ok (.iload_n 3, 1) := by decide +kernel
theorem dX3_digest_136 : decode cX3_digest 136 = .ok (.iaload, 1) := by decide +kernel
theorem dX3_digest_137 : decode cX3_digest 137 = .ok (.invokestatic 192, 3) := by decide +kernel
theorem dX3_digest_140 : decode cX3_digest 140 = .ok (.lstore_n 1, 1) := by decide +kernel
theorem dX3_digest_141 : decode cX3_digest 141 = .ok (.iinc 3 1, 3) := by decide +kernel
theorem dX3_digest_144 : decode cX3_digest 144 = .ok (.goto (-31), 3) := by decide +kernel
theorem dX3_digest_147 : decode cX3_digest 147 = .ok (.aload_n 0, 1) := by decide +kernel
theorem dX3_digest_148 : decode cX3_digest 148 = .ok (.lload_n 1, 1) := by decide +kernel
theorem dX3_digest_149 : decode cX3_digest 149 = .ok (.invokevirtual 207, 3) := by decide +kernel
theorem dX3_digest_152 : decode cX3_digest 152 = .ok (.lreturn, 1) := by decide +kernel
set_option maxRecDepth 20000 in
theorem ggX3_joinedWithCells_X3_searchFromHere : GoodIn wsX3_joinedWithCells wsX3_searchFromHere := goodIn_r _ [7, 2, 8, 9, 1, 10, 11, 12, 13, 14, 15, 16, 17, 18, 19, 20, 21, 22, 23, 24, 25, 26, 27, 28, 29, 30, 31, 32, 33, 34, 35, 36, 37, 38, 39, 40, 41, 42, 43, 44, 45, 46, 47, 48, 49, 50, 51, 52, 53, 54, 55, 56, 57, 58, 59, 60, 61, 62, 63, 64, 65, 66, 67, 68, 69, 70, 71, 72, 73, 99, 100, 101, 102, 103, 104, 105, 106, 111, 112, 113, 107, 108, 109, 110] (by decide +kernel) (by decide +kernel)
set_option maxRecDepth 20000 in
theorem gX3_joinedWithCells_X3_searchFromHere : GoodIn wsX3_joinedWithCells (wsV RX3 156 RX3 yX3_searchFromHere wsX3_searchFromHere) := goodIn_app (goodIn_of _ (by decide +kernel)) ggX3_joinedWithCells_X3_searchFromHere
set_option maxRecDepth 20000 in
theorem ggX3_joinedWithCells_X0_cellAt : GoodIn wsX3_joinedWithCells wsX0_cellAt := goodIn_r _ [54] (by decide +kernel) (by decide +kernel)
set_option maxRecDepth 20000 in
theorem gX3_joinedWithCells_X0_cellAt_n48 : GoodIn wsX3_joinedWithCells (wsX0_cellAt) := ggX3_joinedWithCells_X0_cellAt
set_option maxRecDepth 20000 in
theorem ggX3_joinedWithCells_X0_isFree : GoodIn wsX3_joinedWithCells wsX0_isFree := goodIn_r _ [44, 45, 46, 47, 48, 32, 49, 50, 51, 52, 53, 54, 107, 108, 109, 110] (by decide +kernel) (by decide +kernel)
set_option maxRecDepth 20000 in
theorem gX3_joinedWithCells_X0_isFree_n77 : GoodIn wsX3_joinedWithCells (wsX0_isFree) := ggX3_joinedWithCells_X0_isFree
set_option maxRecDepth 20000 in
theorem ggX3_joinedWithCells_X3_joined : GoodIn wsX3_joinedWithCells wsX3_joined := goodIn_r _ [76, 77] (by decide +kernel) (by decide +kernel)
set_option maxRecDepth 20000 in
theorem gX3_joinedWithCells_X3_joined : GoodIn wsX3_joinedWithCells (va_wsS RX3 192 yX3_joined wsX3_joined) := goodIn_app (goodIn_of _ (by decide +kernel)) ggX3_joinedWithCells_X3_joined
set_option maxRecDepth 20000 in
theorem ggX3_joinedWithCells_X0_printOn : GoodIn wsX3_joinedWithCells wsX0_printOn := goodIn_r _ [80, 81, 46, 47, 48, 32, 49, 50, 51, 52, 53, 54, 107, 108, 109, 110] (by decide +kernel) (by decide +kernel)
set_option maxRecDepth 20000 in
theorem gX3_joinedWithCells_X0_printOn_n127 : GoodIn wsX3_joinedWithCells (wsX0_printOn) := ggX3_joinedWithCells_X0_printOn
set_option maxRecDepth 20000 in
theorem ggX3_joinedWithCells_X1_fewestTo : GoodIn wsX3_joinedWithCells wsX1_fewestTo := goodIn_r _ [84, 85, 86, 87, 11, 88, 65, 56, 66, 27, 28, 29, 30, 14, 89, 90, 91, 92, 93, 94, 95, 111, 112, 113] (by decide +kernel) (by decide +kernel)
set_option maxRecDepth 20000 in
theorem gX3_joinedWithCells_X1_fewestTo_n159 : GoodIn wsX3_joinedWithCells (wsX1_fewestTo) := ggX3_joinedWithCells_X1_fewestTo
set_option maxRecDepth 20000 in
theorem ggX3_joinedWithCells_X1_countTops : GoodIn wsX3_joinedWithCells wsX1_countTops := goodIn_r _ [98, 85, 86, 87, 11, 88, 65, 56, 66, 27, 28, 29, 30, 14, 89, 90, 91, 92, 93, 94, 95, 111, 112, 113] (by decide +kernel) (by decide +kernel)
set_option maxRecDepth 20000 in
theorem gX3_joinedWithCells_X1_countTops_n174 : GoodIn wsX3_joinedWithCells (wsX1_countTops) := ggX3_joinedWithCells_X1_countTops
theorem dX3_joinedWithCells_0 : decode cX3_joinedWithCells 0 = .ok (.aload_n 0, 1) := by decide +kernel
theorem dX3_joinedWithCells_1 : decode cX3_joinedWithCells 1 = .ok (.invokevirtual 156, 3) := by decide +kernel
theorem dX3_joinedWithCells_4 : decode cX3_joinedWithCells 4 = .ok (.lload_n 1, 1) := by decide +kernel
theorem dX3_joinedWithCells_5 : decode cX3_joinedWithCells 5 = .ok (.lstore_n 3, 1) := by decide +kernel
theorem dX3_joinedWithCells_6 : decode cX3_joinedWithCells 6 = .ok (.iconst 0, 1) := by decide +kernel
theorem dX3_joinedWithCells_7 : decode cX3_joinedWithCells 7 = .ok (.istore 5, 2) := by decide +kernel
theorem dX3_joinedWithCells_9 : decode cX3_joinedWithCells 9 = .ok (.iload 5, 2) := by decide +kernel
theorem dX3_joinedWithCells_11 : decode cX3_joinedWithCells 11 = .ok (.aload_n 0, 1) := by decide +kernel
theorem dX3_joinedWithCells_12 : decode cX3_joinedWithCells 12 = .ok (.getfield 12, 3) := by decide +kernel
theorem dX3_joinedWithCells_15 : decode cX3_joinedWithCells 15 = .ok (.getfield 136, 3) := by decide +kernel
theorem dX3_joinedWithCells_18 : decode cX3_joinedWithCells 18 = .ok (.if_icmp .ge 107, 3) := by decide +kernel
theorem dX3_joinedWithCells_21 : decode cX3_joinedWithCells 21 = .ok (.iconst 0, 1) := by decide +kernel
theorem dX3_joinedWithCells_22 : decode cX3_joinedWithCells 22 = .ok (.istore 6, 2) := by decide +kernel
theorem dX3_joinedWithCells_24 : decode cX3_joinedWithCells 24 = .ok (.iload 6, 2) := by decide +kernel
theorem dX3_joinedWithCells_26 : decode cX3_joinedWithCells 26 = .ok (.aload_n 0, 1) := by decide +kernel
theorem dX3_joinedWithCells_27 : decode cX3_joinedWithCells 27 = .ok (.getfield 12, 3) := by decide +kernel
theorem dX3_joinedWithCells_30 : decode cX3_joinedWithCells 30 = .ok (.getfield 133, 3) := by decide +kernel
theorem dX3_joinedWithCells_33 : decode cX3_joinedWithCells 33 = .ok (.if_icmp .ge 86, 3) := by decide +kernel
theorem dX3_joinedWithCells_36 : decode cX3_joinedWithCells 36 = .ok (.iload 6, 2) := by decide +kernel
theorem dX3_joinedWithCells_38 : decode cX3_joinedWithCells 38 = .ok (.iload 5, 2) := by decide +kernel
theorem dX3_joinedWithCells_40 : decode cX3_joinedWithCells 40 = .ok (.invokestatic 48, 3) := by decide +kernel
theorem dX3_joinedWithCells_43 : decode cX3_joinedWithCells 43 = .ok (.istore 7, 2) := by decide +kernel
theorem dX3_joinedWithCells_45 : decode cX3_joinedWithCells 45 = .ok (.lload_n 3, 1) := by decide +kernel
theorem dX3_joinedWithCells_46 : decode cX3_joinedWithCells 46 = .ok (.aload_n 0, 1) := by decide +kernel
theorem dX3_joinedWithCells_47 : decode cX3_joinedWithCells 47 = .ok (.getfield 12, 3) := by decide +kernel
theorem dX3_joinedWithCells_50 : decode cX3_joinedWithCells 50 = .ok (.iload 6, 2) := by decide +kernel
theorem dX3_joinedWithCells_52 : decode cX3_joinedWithCells 52 = .ok (.iload 5, 2) := by decide +kernel
theorem dX3_joinedWithCells_54 : decode cX3_joinedWithCells 54 = .ok (.invokevirtual 77, 3) := by decide +kernel
theorem dX3_joinedWithCells_57 : decode cX3_joinedWithCells 57 = .ok (.ifCond .eq 7, 3) := by decide +kernel
theorem dX3_joinedWithCells_60 : decode cX3_joinedWithCells 60 = .ok (.iconst 0, 1) := by decide +kernel
theorem dX3_joinedWithCells_61 : decode cX3_joinedWithCells 61 = .ok (.goto 4, 3) := by decide +kernel
theorem dX3_joinedWithCells_64 : decode cX3_joinedWithCells 64 = .ok (.iconst 1, 1) := by decide +kernel
theorem dX3_joinedWithCells_65 : decode cX3_joinedWithCells 65 = .ok (.invokestatic 192, 3) := by decide +kernel
theorem dX3_joinedWithCells_68 : decode cX3_joinedWithCells 68 = .ok (.lstore_n 3, 1) := by decide +kernel
theorem dX3_joinedWithCells_69 : decode cX3_joinedWithCells 69 = .ok (.lload_n 3, 1) := by decide +kernel
theorem dX3_joinedWithCells_70 : decode cX3_joinedWithCells 70 = .ok (.aload_n 0, 1) := by decide +kernel
theorem dX3_joinedWithCells_71 : decode cX3_joinedWithCells 71 = .ok (.getfield 12, 3) := by decide +kernel
theorem dX3_joinedWithCells_74 : decode cX3_joinedWithCells 74 = .ok (.iload 6, 2) := by decide +kernel
theorem dX3_joinedWithCells_76 : decode cX3_joinedWithCells 76 = .ok (.iload 5, 2) := by decide +kernel
theorem dX3_joinedWithCells_78 : decode cX3_joinedWithCells 78 = .ok (.invokevirtual 127, 3) := by decide +kernel
theorem dX3_joinedWithCells_81 : decode cX3_joinedWithCells 81 = .ok (.invokestatic 192, 3) := by decide +kernel
theorem dX3_joinedWithCells_84 : decode cX3_joinedWithCells 84 = .ok (.lstore_n 3, 1) := by decide +kernel
theorem dX3_joinedWithCells_85 : decode cX3_joinedWithCells 85 = .ok (.lload_n 3, 1) := by decide +kernel
theorem dX3_joinedWithCells_86 : decode cX3_joinedWithCells 86 = .ok (.aload_n 0, 1) := by decide +kernel
theorem dX3_joinedWithCells_87 : decode cX3_joinedWithCells 87 = .ok (.getfield 19, 3) := by decide +kernel
theorem dX3_joinedWithCells_90 : decode cX3_joinedWithCells 90 = .ok (.iload 7, 2) := by decide +kernel
theorem dX3_joinedWithCells_92 : decode cX3_joinedWithCells 92 = .ok (.invokevirtual 159, 3) := by decide +kernel
theorem dX3_joinedWithCells_95 : decode cX3_joinedWithCells 95 = .ok (.invokestatic 192, 3) := by decide +kernel
theorem dX3_joinedWithCells_98 : decode cX3_joinedWithCells 98 = .ok (.lstore_n 3, 1) := by decide +kernel
theorem dX3_joinedWithCells_99 : decode cX3_joinedWithCells 99 = .ok (.lload_n 3, 1) := by decide +kernel
theorem dX3_joinedWithCells_100 : decode cX3_joinedWithCells 100 = .ok (.aload_n 0, 1) := by decide +kernel
theorem dX3_joinedWithCells_101 : decode cX3_joinedWithCells 101 = .ok (.getfield 19, 3) := by decide +kernel
theorem dX3_joinedWithCells_104 : decode cX3_joinedWithCells 104 = .ok (.iload 7, 2) := by decide +kernel
theorem dX3_joinedWithCells_106 : decode cX3_joinedWithCells 106 = .ok (.invokevirtual 174, 3) := by decide +kernel
theorem dX3_joinedWithCells_109 : decode cX3_joinedWithCells 109 = .ok (.invokestatic 192, 3) := by decide +kernel
theorem dX3_joinedWithCells_112 : decode cX3_joinedWithCells 112 = .ok (.lstore_n 3, 1) := by decide +kernel
theorem dX3_joinedWithCells_113 : decode cX3_joinedWithCells 113 = .ok (.iinc 6 1, 3) := by decide +kernel
theorem dX3_joinedWithCells_116 : decode cX3_joinedWithCells 116 = .ok (.goto (-92), 3) := by decide +kernel
theorem dX3_joinedWithCells_119 : decode cX3_joinedWithCells 119 = .ok (.iinc 5 1, 3) := by decide +kernel
theorem dX3_joinedWithCells_122 : decode cX3_joinedWithCells 122 = .ok (.goto (-113), 3) := by decide +kernel
theorem dX3_joinedWithCells_125 : decode cX3_joinedWithCells 125 = .ok (.lload_n 3, 1) := by decide +kernel
theorem dX3_joinedWithCells_126 : decode cX3_joinedWithCells 126 = .ok (.lreturn, 1) := by decide +kernel
theorem dX3_joined_0 : decode cX3_joined 0 = .ok (.lload_n 0, 1) := by decide +kernel
theorem dX3_joined_1 : decode cX3_joined 1 = .ok (.ldc2_w 211, 3) := by decide +kernel
theorem dX3_joined_4 : decode cX3_joined 4 = .ok (.lmul, 1) := by decide +kernel
theorem dX3_joined_5 : decode cX3_joined 5 = .ok (.iload_n 2, 1) := by decide +kernel
theorem dX3_joined_6 : decode cX3_joined 6 = .ok (.i2l, 1) := by decide +kernel
theorem dX3_joined_7 : decode cX3_joined 7 = .ok (.ladd, 1) := by decide +kernel
theorem dX3_joined_8 : decode cX3_joined 8 = .ok (.lreturn, 1) := by decide +kernel
set_option maxRecDepth 20000 in
theorem ggX3_startOn_X0_layOut : GoodIn wsX3_startOn wsX0_layOut := goodIn_r _ [9, 10, 11, 12, 13, 22, 23, 24, 25] (by decide +kernel) (by decide +kernel)
set_option maxRecDepth 20000 in
theorem gX3_startOn_X0_layOut_n213 : GoodIn wsX3_startOn (wsX0_layOut) := ggX3_startOn_X0_layOut
theorem dX3_startOn_0 : decode cX3_startOn 0 = .ok (.aload_n 0, 1) := by decide +kernel
theorem dX3_startOn_1 : decode cX3_startOn 1 = .ok (.getfield 12, 3) := by decide +kernel
theorem dX3_startOn_4 : decode cX3_startOn 4 = .ok (.iload_n 1, 1) := by decide +kernel
theorem dX3_startOn_5 : decode cX3_startOn 5 = .ok (.iload_n 2, 1) := by decide +kernel
theorem dX3_startOn_6 : decode cX3_startOn 6 = .ok (.invokevirtual 213, 3) := by decide +kernel
theorem dX3_startOn_9 : decode cX3_startOn 9 = .ok (.aload_n 0, 1) := by decide +kernel
theorem dX3_startOn_10 : decode cX3_startOn 10 = .ok (.iconst 0, 1) := by decide +kernel
theorem dX3_startOn_11 : decode cX3_startOn 11 = .ok (.putfield 52, 3) := by decide +kernel
theorem dX3_startOn_14 : decode cX3_startOn 14 = .ok (.aload_n 0, 1) := by decide +kernel
theorem dX3_startOn_15 : decode cX3_startOn 15 = .ok (.iconst 1, 1) := by decide +kernel
theorem dX3_startOn_16 : decode cX3_startOn 16 = .ok (.putfield 96, 3) := by decide +kernel
theorem dX3_startOn_19 : decode cX3_startOn 19 = .ok (.aload_n 0, 1) := by decide +kernel
theorem dX3_startOn_20 : decode cX3_startOn 20 = .ok (.iconst 0, 1) := by decide +kernel
theorem dX3_startOn_21 : decode cX3_startOn 21 = .ok (.putfield 142, 3) := by decide +kernel
theorem dX3_startOn_24 : decode cX3_startOn 24 = .ok (.aload_n 0, 1) := by decide +kernel
theorem dX3_startOn_25 : decode cX3_startOn 25 = .ok (.iconst 0, 1) := by decide +kernel
theorem dX3_startOn_26 : decode cX3_startOn 26 = .ok (.putfield 145, 3) := by decide +kernel
theorem dX3_startOn_29 : decode cX3_startOn 29 = .ok (.return_, 1) := by decide +kernel
set_option maxRecDepth 20000 in
theorem ggX3_rollOnce_X0_nextCell : GoodIn wsX3_rollOnce wsX0_nextCell := goodIn_r _ [8, 9, 10, 6, 11, 12, 13, 14, 15, 16, 17, 18, 19, 20, 21, 22, 23, 24, 25, 26, 27, 28, 78, 79, 80, 81] (by decide +kernel) (by decide +kernel)
set_option maxRecDepth 20000 in
theorem gX3_rollOnce_X0_nextCell_n130 : GoodIn wsX3_rollOnce (wsX0_nextCell) := ggX3_rollOnce_X0_nextCell
set_option maxRecDepth 20000 in
theorem ggX3_rollOnce_X2_behindRoll : GoodIn wsX3_rollOnce wsX2_behindRoll := goodIn_r _ [31, 32, 33, 30, 34, 35, 36, 37, 38, 39, 40, 41, 42, 43, 44, 45, 46] (by decide +kernel) (by decide +kernel)
set_option maxRecDepth 20000 in
theorem gX3_rollOnce_X2_behindRoll_n171 : GoodIn wsX3_rollOnce (wsX2_behindRoll) := ggX3_rollOnce_X2_behindRoll
set_option maxRecDepth 20000 in
theorem ggX3_rollOnce_X3_printHere : GoodIn wsX3_rollOnce wsX3_printHere := goodIn_r _ [51, 52, 1, 2, 53, 54, 55, 56, 57, 50, 58, 59, 60, 61, 62, 3, 33, 30, 34, 63, 64, 65, 66, 6, 67, 68, 69, 70, 71, 72, 73, 74, 75, 76, 77, 78, 79, 80, 81] (by decide +kernel) (by decide +kernel)
set_option maxRecDepth 20000 in
theorem gX3_rollOnce_X3_printHere : GoodIn wsX3_rollOnce (wsV RX3 216 RX3 yX3_printHere wsX3_printHere) := goodIn_app (goodIn_of _ (by decide +kernel)) ggX3_rollOnce_X3_printHere
theorem dX3_rollOnce_0 : decode cX3_rollOnce 0 = .ok (.aload_n 0, 1) := by decide +kernel
theorem dX3_rollOnce_1 : decode cX3_rollOnce 1 = .ok (.getfield 12, 3) := by decide +kernel
theorem dX3_rollOnce_4 : decode cX3_rollOnce 4 = .ok (.aload_n 0, 1) := by decide +kernel
theorem dX3_rollOnce_5 : decode cX3_rollOnce 5 = .ok (.getfield 52, 3) := by decide +kernel
theorem dX3_rollOnce_8 : decode cX3_rollOnce 8 = .ok (.iload_n 1, 1) := by decide +kernel
theorem dX3_rollOnce_9 : decode cX3_rollOnce 9 = .ok (.invokevirtual 130, 3) := by decide +kernel
theorem dX3_rollOnce_12 : decode cX3_rollOnce 12 = .ok (.istore_n 2, 1) := by decide +kernel
theorem dX3_rollOnce_13 : decode cX3_rollOnce 13 = .ok (.iload_n 2, 1) := by decide +kernel
theorem dX3_rollOnce_14 : decode cX3_rollOnce 14 = .ok (.iconst (-1), 1) := by decide +kernel
theorem dX3_rollOnce_15 : decode cX3_rollOnce 15 = .ok (.if_icmp .ne 5, 3) := by decide +kernel
theorem dX3_rollOnce_18 : decode cX3_rollOnce 18 = .ok (.iconst 0, 1) := by decide +kernel
theorem dX3_rollOnce_19 : decode cX3_rollOnce 19 = .ok (.ireturn, 1) := by decide +kernel
theorem dX3_rollOnce_20 : decode cX3_rollOnce 20 = .ok (.aload_n 0, 1) := by decide +kernel
theorem dX3_rollOnce_21 : decode cX3_rollOnce 21 = .ok (.iload_n 2, 1) := by decide +kernel
theorem dX3_rollOnce_22 : decode cX3_rollOnce 22 = .ok (.putfield 52, 3) := by decide +kernel
theorem dX3_rollOnce_25 : decode cX3_rollOnce 25 = .ok (.aload_n 0, 1) := by decide +kernel
theorem dX3_rollOnce_26 : decode cX3_rollOnce 26 = .ok (.aload_n 0, 1) := by decide +kernel
theorem dX3_rollOnce_27 : decode cX3_rollOnce 27 = .ok (.getfield 96, 3) := by decide +kernel
theorem dX3_rollOnce_30 : decode cX3_rollOnce 30 = .ok (.iload_n 1, 1) := by decide +kernel
theorem dX3_rollOnce_31 : decode cX3_rollOnce 31 = .ok (.invokestatic 171, 3) := by decide +kernel
theorem dX3_rollOnce_34 : decode cX3_rollOnce 34 = .ok (.putfield 96, 3) := by decide +kernel
theorem dX3_rollOnce_37 : decode cX3_rollOnce 37 = .ok (.aload_n 0, 1) := by decide +kernel
theorem dX3_rollOnce_38 : decode cX3_rollOnce 38 = .ok (.dup, 1) := by decide +kernel
theorem dX3_rollOnce_39 : decode cX3_rollOnce 39 = .ok (.getfield 142, 3) := by decide +kernel
theorem dX3_rollOnce_42 : decode cX3_rollOnce 42 = .ok (.iconst 1, 1) := by decide +kernel
theorem dX3_rollOnce_43 : decode cX3_rollOnce 43 = .ok (.iadd, 1) := by decide +kernel
theorem dX3_rollOnce_44 : decode cX3_rollOnce 44 = .ok (.putfield 142, 3) := by decide +kernel
theorem dX3_rollOnce_47 : decode cX3_rollOnce 47 = .ok (.aload_n 0, 1) := by decide +kernel
theorem dX3_rollOnce_48 : decode cX3_rollOnce 48 = .ok (.invokevirtual 216, 3) := by decide +kernel
theorem dX3_rollOnce_51 : decode cX3_rollOnce 51 = .ok (.iconst 1, 1) := by decide +kernel
theorem dX3_rollOnce_52 : decode cX3_rollOnce 52 = .ok (.ireturn, 1) := by decide +kernel
set_option maxRecDepth 20000 in
theorem ggX3_printHere_X3_bottom : GoodIn wsX3_printHere wsX3_bottom := goodIn_r _ [10, 11, 12, 13, 9, 14, 15, 16, 17, 18, 27, 28, 29, 30, 31, 32, 33, 34] (by decide +kernel) (by decide +kernel)
set_option maxRecDepth 20000 in
theorem gX3_printHere_X3_bottom : GoodIn wsX3_printHere (wsV RX3 107 RX3 yX3_bottom wsX3_bottom) := goodIn_app (goodIn_of _ (by decide +kernel)) ggX3_printHere_X3_bottom
set_option maxRecDepth 20000 in
theorem ggX3_printHere_X3_isFace : GoodIn wsX3_printHere wsX3_isFace := goodIn_r _ [21] (by decide +kernel) (by decide +kernel)
set_option maxRecDepth 20000 in
theorem gX3_printHere_X3_isFace : GoodIn wsX3_printHere (va_wsS RX3 219 yX3_isFace wsX3_isFace) := goodIn_app (goodIn_of _ (by decide +kernel)) ggX3_printHere_X3_isFace
set_option maxRecDepth 20000 in
theorem ggX3_printHere_X0_printOnto : GoodIn wsX3_printHere wsX0_printOnto := goodIn_r _ [25, 26, 35, 36, 37, 38] (by decide +kernel) (by decide +kernel)
set_option maxRecDepth 20000 in
theorem gX3_printHere_X0_printOnto_n222 : GoodIn wsX3_printHere (wsX0_printOnto) := ggX3_printHere_X0_printOnto
theorem dX3_printHere_0 : decode cX3_printHere 0 = .ok (.aload_n 0, 1) := by decide +kernel
theorem dX3_printHere_1 : decode cX3_printHere 1 = .ok (.invokevirtual 107, 3) := by decide +kernel
theorem dX3_printHere_4 : decode cX3_printHere 4 = .ok (.istore_n 1, 1) := by decide +kernel
theorem dX3_printHere_5 : decode cX3_printHere 5 = .ok (.iload_n 1, 1) := by decide +kernel
theorem dX3_printHere_6 : decode cX3_printHere 6 = .ok (.invokestatic 219, 3) := by decide +kernel
theorem dX3_printHere_9 : decode cX3_printHere 9 = .ok (.ifCond .eq 49, 3) := by decide +kernel
theorem dX3_printHere_12 : decode cX3_printHere 12 = .ok (.aload_n 0, 1) := by decide +kernel
theorem dX3_printHere_13 : decode cX3_printHere 13 = .ok (.getfield 27, 3) := by decide +kernel
theorem dX3_printHere_16 : decode cX3_printHere 16 = .ok (.iload_n 1, 1) := by decide +kernel
theorem dX3_printHere_17 : decode cX3_printHere 17 = .ok (.iaload, 1) := by decide +kernel
theorem dX3_printHere_18 : decode cX3_printHere 18 = .ok (.ifCond .le 40, 3) := by decide +kernel
theorem dX3_printHere_21 : decode cX3_printHere 21 = .ok (.aload_n 0, 1) := by decide +kernel
theorem dX3_printHere_22 : decode cX3_printHere 22 = .ok (.getfield 12, 3) := by decide +kernel
theorem dX3_printHere_25 : decode cX3_printHere 25 = .ok (.aload_n 0, 1) := by decide +kernel
theorem dX3_printHere_26 : decode cX3_printHere 26 = .ok (.getfield 52, 3) := by decide +kernel
theorem dX3_printHere_29 : decode cX3_printHere 29 = .ok (.aload_n 0, 1) := by decide +kernel
theorem dX3_printHere_30 : decode cX3_printHere 30 = .ok (.getfield 23, 3) := by decide +kernel
theorem dX3_printHere_33 : decode cX3_printHere 33 = .ok (.iload_n 1, 1) := by decide +kernel
theorem dX3_printHere_34 : decode cX3_printHere 34 = .ok (.iaload, 1) := by decide +kernel
theorem dX3_printHere_35 : decode cX3_printHere 35 = .ok (.invokevirtual 222, 3) := by decide +kernel
theorem dX3_printHere_38 : decode cX3_printHere 38 = .ok (.aload_n 0, 1) := by decide +kernel
theorem dX3_printHere_39 : decode cX3_printHere 39 = .ok (.getfield 27, 3) := by decide +kernel
theorem dX3_printHere_42 : decode cX3_printHere 42 = .ok (.iload_n 1, 1) := by decide +kernel
theorem dX3_printHere_43 : decode cX3_printHere 43 = .ok (.dup2, 1) := by decide +kernel
theorem dX3_printHere_44 : decode cX3_printHere 44 = .ok (.iaload, 1) := by decide +kernel
theorem dX3_printHere_45 : decode cX3_printHere 45 = .ok (.iconst 1, 1) := by decide +kernel
theorem dX3_printHere_46 : decode cX3_printHere 46 = .ok (.isub, 1) := by decide +kernel
theorem dX3_printHere_47 : decode cX3_printHere 47 = .ok (.iastore, 1) := by decide +kernel
theorem dX3_printHere_48 : decode cX3_printHere 48 = .ok (.aload_n 0, 1) := by decide +kernel
theorem dX3_printHere_49 : decode cX3_printHere 49 = .ok (.dup, 1) := by decide +kernel
theorem dX3_printHere_50 : decode cX3_printHere 50 = .ok (.getfield 145, 3) := by decide +kernel
theorem dX3_printHere_53 : decode cX3_printHere 53 = .ok (.iconst 1, 1) := by decide +kernel
theorem dX3_printHere_54 : decode cX3_printHere 54 = .ok (.iadd, 1) := by decide +kernel
theorem dX3_printHere_55 : decode cX3_printHere 55 = .ok (.putfield 145, 3) := by decide +kernel
theorem dX3_printHere_58 : decode cX3_printHere 58 = .ok (.return_, 1) := by decide +kernel
set_option maxRecDepth 20000 in
theorem ggX3_isShutIn_X0_nextCell : GoodIn wsX3_isShutIn wsX0_nextCell := goodIn_r _ [6, 7, 8, 4, 9, 10, 11, 12, 13, 14, 15, 16, 17, 18, 19, 20, 21, 22, 23, 24, 25, 26, 35, 36, 37, 38] (by decide +kernel) (by decide +kernel)
set_option maxRecDepth 20000 in
theorem gX3_isShutIn_X0_nextCell_n130 : GoodIn wsX3_isShutIn (wsX0_nextCell) := ggX3_isShutIn_X0_nextCell
theorem dX3_isShutIn_0 : decode cX3_isShutIn 0 = .ok (.iconst 0, 1) := by decide +kernel
theorem dX3_isShutIn_1 : decode cX3_isShutIn 1 = .ok (.istore_n 1, 1) := by decide +kernel
theorem dX3_isShutIn_2 : decode cX3_isShutIn 2 = .ok (.iload_n 1, 1) := by decide +kernel
theorem dX3_isShutIn_3 : decode cX3_isShutIn 3 = .ok (.iconst 4, 1) := by decide +kernel
theorem dX3_isShutIn_4 : decode cX3_isShutIn 4 = .ok (.if_icmp .ge 27, 3) := by decide +kernel
theorem dX3_isShutIn_7 : decode cX3_isShutIn 7 = .ok (.aload_n 0, 1) := by decide +kernel
theorem dX3_isShutIn_8 : decode cX3_isShutIn 8 = .ok (.getfield 12, 3) := by decide +kernel
theorem dX3_isShutIn_11 : decode cX3_isShutIn 11 = .ok (.aload_n 0, 1) := by decide +kernel
theorem dX3_isShutIn_12 : decode cX3_isShutIn 12 = .ok (.getfield 52, 3) := by decide +kernel
theorem dX3_isShutIn_15 : decode cX3_isShutIn 15 = .ok (.iload_n 1, 1) := by decide +kernel
theorem dX3_isShutIn_16 : decode cX3_isShutIn 16 = .ok (.invokevirtual 130, 3) := by decide +kernel
theorem dX3_isShutIn_19 : decode cX3_isShutIn 19 = .ok (.iconst (-1), 1) := by decide +kernel
theorem dX3_isShutIn_20 : decode cX3_isShutIn 20 = .ok (.if_icmp .eq 5, 3) := by decide +kernel
theorem dX3_isShutIn_23 : decode cX3_isShutIn 23 = .ok (.iconst 0, 1) := by decide +kernel
theorem dX3_isShutIn_24 : decode cX3_isShutIn 24 = .ok (.ireturn, 1) := by decide +kernel
theorem dX3_isShutIn_25 : decode cX3_isShutIn 25 = .ok (.iinc 1 1, 3) := by decide +kernel
theorem dX3_isShutIn_28 : decode cX3_isShutIn 28 = .ok (.goto (-26), 3) := by decide +kernel
theorem dX3_isShutIn_31 : decode cX3_isShutIn 31 = .ok (.iconst 1, 1) := by decide +kernel
theorem dX3_isShutIn_32 : decode cX3_isShutIn 32 = .ok (.ireturn, 1) := by decide +kernel
set_option maxRecDepth 20000 in
theorem ggX3_searchFromHere_X1_forget : GoodIn wsX3_searchFromHere wsX1_forget := goodIn_r _ [8, 9, 10, 11, 12, 13, 14, 77, 78, 79] (by decide +kernel) (by decide +kernel)
set_option maxRecDepth 20000 in
theorem gX3_searchFromHere_X1_forget_n225 : GoodIn wsX3_searchFromHere (wsX1_forget) := ggX3_searchFromHere_X1_forget
set_option maxRecDepth 20000 in
theorem ggX3_searchFromHere_X1_reach : GoodIn wsX3_searchFromHere wsX1_reach := goodIn_r _ [17, 9, 10, 18, 77, 78, 79] (by decide +kernel) (by decide +kernel)
set_option maxRecDepth 20000 in
theorem gX3_searchFromHere_X1_reach_n228 : GoodIn wsX3_searchFromHere (wsX1_reach) := ggX3_searchFromHere_X1_reach
set_option maxRecDepth 20000 in
theorem ggX3_searchFromHere_X1_spread : GoodIn wsX3_searchFromHere wsX1_spread := goodIn_r _ [21, 10, 18, 22, 23, 24, 6, 25, 9, 26, 27, 28, 29, 30, 31, 32, 33, 34, 35, 36, 37, 38, 39, 40, 41, 42, 43, 44, 45, 46, 47, 48, 49, 50, 51, 52, 53, 54, 55, 56, 57, 58, 59, 60, 61, 62, 63, 64, 65, 66, 67, 68, 15, 16, 17, 77, 78, 79, 80, 81, 82, 83] (by decide +kernel) (by decide +kernel)
set_option maxRecDepth 20000 in
theorem gX3_searchFromHere_X1_spread_n232 : GoodIn wsX3_searchFromHere (wsX1_spread) := ggX3_searchFromHere_X1_spread
theorem dX3_searchFromHere_0 : decode cX3_searchFromHere 0 = .ok (.aload_n 0, 1) := by decide +kernel
theorem dX3_searchFromHere_1 : decode cX3_searchFromHere 1 = .ok (.getfield 19, 3) := by decide +kernel
theorem dX3_searchFromHere_4 : decode cX3_searchFromHere 4 = .ok (.invokevirtual 225, 3) := by decide +kernel
theorem dX3_searchFromHere_7 : decode cX3_searchFromHere 7 = .ok (.aload_n 0, 1) := by decide +kernel
theorem dX3_searchFromHere_8 : decode cX3_searchFromHere 8 = .ok (.getfield 19, 3) := by decide +kernel
theorem dX3_searchFromHere_11 : decode cX3_searchFromHere 11 = .ok (.aload_n 0, 1) := by decide +kernel
theorem dX3_searchFromHere_12 : decode cX3_searchFromHere 12 = .ok (.getfield 52, 3) := by decide +kernel
theorem dX3_searchFromHere_15 : decode cX3_searchFromHere 15 = .ok (.aload_n 0, 1) := by decide +kernel
theorem dX3_searchFromHere_16 : decode cX3_searchFromHere 16 = .ok (.getfield 96, 3) := by decide +kernel
theorem dX3_searchFromHere_19 : decode cX3_searchFromHere 19 = .ok (.iconst 0, 1) := by decide +kernel
theorem dX3_searchFromHere_20 : decode cX3_searchFromHere 20 = .ok (.invokevirtual 228, 3) := by decide +kernel
theorem dX3_searchFromHere_23 : decode cX3_searchFromHere 23 = .ok (.aload_n 0, 1) := by decide +kernel
theorem dX3_searchFromHere_24 : decode cX3_searchFromHere 24 = .ok (.getfield 19, 3) := by decide +kernel
theorem dX3_searchFromHere_27 : decode cX3_searchFromHere 27 = .ok (.aload_n 0, 1) := by decide +kernel
theorem dX3_searchFromHere_28 : decode cX3_searchFromHere 28 = .ok (.getfield 12, 3) := by decide +kernel
theorem dX3_searchFromHere_31 : decode cX3_searchFromHere 31 = .ok (.invokevirtual 232, 3) := by decide +kernel
theorem dX3_searchFromHere_34 : decode cX3_searchFromHere 34 = .ok (.return_, 1) := by decide +kernel
set_option maxRecDepth 20000 in
theorem ggX3_searchBackFrom_X1_forget : GoodIn wsX3_searchBackFrom wsX1_forget := goodIn_r _ [6, 7, 8, 9, 10, 11, 12, 78, 79, 80] (by decide +kernel) (by decide +kernel)
set_option maxRecDepth 20000 in
theorem gX3_searchBackFrom_X1_forget_n225 : GoodIn wsX3_searchBackFrom (wsX1_forget) := ggX3_searchBackFrom_X1_forget
set_option maxRecDepth 20000 in
theorem ggX3_searchBackFrom_X0_isFreeCell : GoodIn wsX3_searchBackFrom wsX0_isFreeCell := goodIn_r _ [16, 17, 18, 14, 19, 20, 21, 22, 23, 24, 25, 26, 27, 28, 29, 30, 31, 32, 33, 34, 35, 36, 81, 82, 83, 84] (by decide +kernel) (by decide +kernel)
set_option maxRecDepth 20000 in
theorem gX3_searchBackFrom_X0_isFreeCell_n236 : GoodIn wsX3_searchBackFrom (wsX0_isFreeCell) := ggX3_searchBackFrom_X0_isFreeCell
set_option maxRecDepth 20000 in
theorem ggX3_searchBackFrom_X2_with : GoodIn wsX3_searchBackFrom wsX2_with := goodIn_r _ [39] (by decide +kernel) (by decide +kernel)
set_option maxRecDepth 20000 in
theorem gX3_searchBackFrom_X2_with_n239 : GoodIn wsX3_searchBackFrom (wsX2_with) := ggX3_searchBackFrom_X2_with
set_option maxRecDepth 20000 in
theorem ggX3_searchBackFrom_X1_reach : GoodIn wsX3_searchBackFrom wsX1_reach := goodIn_r _ [42, 7, 8, 43, 78, 79, 80] (by decide +kernel) (by decide +kernel)
set_option maxRecDepth 20000 in
theorem gX3_searchBackFrom_X1_reach_n228 : GoodIn wsX3_searchBackFrom (wsX1_reach) := ggX3_searchBackFrom_X1_reach
set_option maxRecDepth 20000 in
theorem ggX3_searchBackFrom_X1_spread : GoodIn wsX3_searchBackFrom wsX1_spread := goodIn_r _ [46, 8, 43, 47, 48, 49, 4, 50, 7, 51, 14, 52, 53, 17, 18, 19, 20, 21, 22, 23, 24, 25, 26, 27, 28, 29, 30, 31, 32, 33, 34, 35, 36, 54, 38, 55, 56, 57, 58, 59, 60, 61, 62, 37, 39, 63, 64, 65, 66, 67, 68, 69, 40, 41, 42, 78, 79, 80, 81, 82, 83, 84] (by decide +kernel) (by decide +kernel)
set_option maxRecDepth 20000 in
theorem gX3_searchBackFrom_X1_spread_n232 : GoodIn wsX3_searchBackFrom (wsX1_spread) := ggX3_searchBackFrom_X1_spread
theorem dX3_searchBackFrom_0 : decode cX3_searchBackFrom 0 = .ok (.aload_n 0, 1) := by decide +kernel
theorem dX3_searchBackFrom_1 : decode cX3_searchBackFrom 1 = .ok (.getfield 19, 3) := by decide +kernel
theorem dX3_searchBackFrom_4 : decode cX3_searchBackFrom 4 = .ok (.invokevirtual 225, 3) := by decide +kernel
theorem dX3_searchBackFrom_7 : decode cX3_searchBackFrom 7 = .ok (.aload_n 0, 1) := by decide +kernel
theorem dX3_searchBackFrom_8 : decode cX3_searchBackFrom 8 = .ok (.getfield 12, 3) := by decide +kernel
theorem dX3_searchBackFrom_11 : decode cX3_searchBackFrom 11 = .ok (.iload_n 1, 1) := by decide +kernel
theorem dX3_searchBackFrom_12 : decode cX3_searchBackFrom 12 = .ok (.invokevirtual 236, 3) := by decide +kernel
theorem dX3_searchBackFrom_15 : decode cX3_searchBackFrom 15 = .ok (.ifCond .ne 4, 3) := by decide +kernel
theorem dX3_searchBackFrom_18 : decode cX3_searchBackFrom 18 = .ok (.return_, 1) := by decide +kernel
theorem dX3_searchBackFrom_19 : decode cX3_searchBackFrom 19 = .ok (.iconst 1, 1) := by decide +kernel
theorem dX3_searchBackFrom_20 : decode cX3_searchBackFrom 20 = .ok (.istore_n 3, 1) := by decide +kernel
theorem dX3_searchBackFrom_21 : decode cX3_searchBackFrom 21 = .ok (.iload_n 3, 1) := by decide +kernel
theorem dX3_searchBackFrom_22 : decode cX3_searchBackFrom 22 = .ok (.bipush 6, 2) := by decide +kernel
theorem dX3_searchBackFrom_24 : decode cX3_searchBackFrom 24 = .ok (.if_icmp .gt 36, 3) := by decide +kernel
theorem dX3_searchBackFrom_27 : decode cX3_searchBackFrom 27 = .ok (.iload_n 3, 1) := by decide +kernel
theorem dX3_searchBackFrom_28 : decode cX3_searchBackFrom 28 = .ok (.iload_n 2, 1) := by decide +kernel
theorem dX3_searchBackFrom_29 : decode cX3_searchBackFrom 29 = .ok (.if_icmp .eq 25, 3) := by decide +kernel
theorem dX3_searchBackFrom_32 : decode cX3_searchBackFrom 32 = .ok (.iload_n 3, 1) := by decide +kernel
theorem dX3_searchBackFrom_33 : decode cX3_searchBackFrom 33 = .ok (.bipush 7, 2) := by decide +kernel
theorem dX3_searchBackFrom_35 : decode cX3_searchBackFrom 35 = .ok (.iload_n 2, 1) := by decide +kernel
theorem dX3_searchBackFrom_36 : decode cX3_searchBackFrom 36 = .ok (.isub, 1) := by decide +kernel
theorem dX3_searchBackFrom_37 : decode cX3_searchBackFrom 37 = .ok (.if_icmp .eq 17, 3) := by decide +kernel
theorem dX3_searchBackFrom_40 : decode cX3_searchBackFrom 40 = .ok (.aload_n 0, 1) := by decide +kernel
theorem dX3_searchBackFrom_41 : decode cX3_searchBackFrom 41 = .ok (.getfield 19, 3) := by decide +kernel
theorem dX3_searchBackFrom_44 : decode cX3_searchBackFrom 44 = .ok (.iload_n 1, 1) := by decide +kernel
theorem dX3_searchBackFrom_45 : decode cX3_searchBackFrom 45 = .ok (.iload_n 2, 1) := by decide +kernel
theorem dX3_searchBackFrom_46 : decode cX3_searchBackFrom 46 = .ok (.iload_n 3, 1) := by decide +kernel
theorem dX3_searchBackFrom_47 : decode cX3_searchBackFrom 47 = .ok (.invokestatic 239, 3) := by decide +kernel
theorem dX3_searchBackFrom_50 : decode cX3_searchBackFrom 50 = .ok (.iconst 0, 1) := by decide +kernel
theorem dX3_searchBackFrom_51 : decode cX3_searchBackFrom 51 = .ok (.invokevirtual 228, 3) := by decide +kernel
theorem dX3_searchBackFrom_54 : decode cX3_searchBackFrom 54 = .ok (.iinc 3 1, 3) := by decide +kernel
theorem dX3_searchBackFrom_57 : decode cX3_searchBackFrom 57 = .ok (.goto (-36), 3) := by decide +kernel
theorem dX3_searchBackFrom_60 : decode cX3_searchBackFrom 60 = .ok (.aload_n 0, 1) := by decide +kernel
theorem dX3_searchBackFrom_61 : decode cX3_searchBackFrom 61 = .ok (.getfield 19, 3) := by decide +kernel
theorem dX3_searchBackFrom_64 : decode cX3_searchBackFrom 64 = .ok (.aload_n 0, 1) := by decide +kernel
theorem dX3_searchBackFrom_65 : decode cX3_searchBackFrom 65 = .ok (.getfield 12, 3) := by decide +kernel
theorem dX3_searchBackFrom_68 : decode cX3_searchBackFrom 68 = .ok (.invokevirtual 232, 3) := by decide +kernel
theorem dX3_searchBackFrom_71 : decode cX3_searchBackFrom 71 = .ok (.return_, 1) := by decide +kernel
set_option maxRecDepth 20000 in
theorem ggX3_checkCell_X0_has : GoodIn wsX3_checkCell wsX0_has := goodIn_r _ [7, 8, 9, 18, 19, 20, 21] (by decide +kernel) (by decide +kernel)
set_option maxRecDepth 20000 in
theorem gX3_checkCell_X0_has_n242 : GoodIn wsX3_checkCell (wsX0_has) := ggX3_checkCell_X0_has
theorem dX3_checkCell_0 : decode cX3_checkCell 0 = .ok (.aload_n 0, 1) := by decide +kernel
theorem dX3_checkCell_1 : decode cX3_checkCell 1 = .ok (.getfield 12, 3) := by decide +kernel
theorem dX3_checkCell_4 : decode cX3_checkCell 4 = .ok (.iload_n 1, 1) := by decide +kernel
theorem dX3_checkCell_5 : decode cX3_checkCell 5 = .ok (.iload_n 2, 1) := by decide +kernel
theorem dX3_checkCell_6 : decode cX3_checkCell 6 = .ok (.invokevirtual 242, 3) := by decide +kernel
theorem dX3_checkCell_9 : decode cX3_checkCell 9 = .ok (.ifCond .ne 13, 3) := by decide +kernel
theorem dX3_checkCell_12 : decode cX3_checkCell 12 = .ok (.new 148, 3) := by decide +kernel
theorem dX3_checkCell_15 : decode cX3_checkCell 15 = .ok (.dup, 1) := by decide +kernel
theorem dX3_checkCell_16 : decode cX3_checkCell 16 = .ok (.ldc 245, 2) := by decide +kernel
theorem dX3_checkCell_18 : decode cX3_checkCell 18 = .ok (.invokespecial 152, 3) := by decide +kernel
theorem dX3_checkCell_21 : decode cX3_checkCell 21 = .ok (.athrow, 1) := by decide +kernel
theorem dX3_checkCell_22 : decode cX3_checkCell 22 = .ok (.return_, 1) := by decide +kernel
set_option maxRecDepth 20000 in
theorem ggX3_checkFace_X3_isFace : GoodIn wsX3_checkFace wsX3_isFace := goodIn_r _ [6] (by decide +kernel) (by decide +kernel)
set_option maxRecDepth 20000 in
theorem gX3_checkFace_X3_isFace : GoodIn wsX3_checkFace (va_wsS RX3 219 yX3_isFace wsX3_isFace) := goodIn_app (goodIn_of _ (by decide +kernel)) ggX3_checkFace_X3_isFace
theorem dX3_checkFace_0 : decode cX3_checkFace 0 = .ok (.iload_n 0, 1) := by decide +kernel
theorem dX3_checkFace_1 : decode cX3_checkFace 1 = .ok (.invokestatic 219, 3) := by decide +kernel
theorem dX3_checkFace_4 : decode cX3_checkFace 4 = .ok (.ifCond .ne 13, 3) := by decide +kernel
theorem dX3_checkFace_7 : decode cX3_checkFace 7 = .ok (.new 148, 3) := by decide +kernel
theorem dX3_checkFace_10 : decode cX3_checkFace 10 = .ok (.dup, 1) := by decide +kernel
theorem dX3_checkFace_11 : decode cX3_checkFace 11 = .ok (.ldc 247, 2) := by decide +kernel
theorem dX3_checkFace_13 : decode cX3_checkFace 13 = .ok (.invokespecial 152, 3) := by decide +kernel
theorem dX3_checkFace_16 : decode cX3_checkFace 16 = .ok (.athrow, 1) := by decide +kernel
theorem dX3_checkFace_17 : decode cX3_checkFace 17 = .ok (.return_, 1) := by decide +kernel
theorem dX3_checkDirection_0 : decode cX3_checkDirection 0 = .ok (.iload_n 0, 1) := by decide +kernel
theorem dX3_checkDirection_1 : decode cX3_checkDirection 1 = .ok (.ifCond .lt 8, 3) := by decide +kernel
theorem dX3_checkDirection_4 : decode cX3_checkDirection 4 = .ok (.iload_n 0, 1) := by decide +kernel
theorem dX3_checkDirection_5 : decode cX3_checkDirection 5 = .ok (.iconst 4, 1) := by decide +kernel
theorem dX3_checkDirection_6 : decode cX3_checkDirection 6 = .ok (.if_icmp .lt 13, 3) := by decide +kernel
theorem dX3_checkDirection_9 : decode cX3_checkDirection 9 = .ok (.new 148, 3) := by decide +kernel
theorem dX3_checkDirection_12 : decode cX3_checkDirection 12 = .ok (.dup, 1) := by decide +kernel
theorem dX3_checkDirection_13 : decode cX3_checkDirection 13 = .ok (.ldc 249, 2) := by decide +kernel
theorem dX3_checkDirection_15 : decode cX3_checkDirection 15 = .ok (.invokespecial 152, 3) := by decide +kernel
theorem dX3_checkDirection_18 : decode cX3_checkDirection 18 = .ok (.athrow, 1) := by decide +kernel
theorem dX3_checkDirection_19 : decode cX3_checkDirection 19 = .ok (.return_, 1) := by decide +kernel
theorem dX3_isFace_0 : decode cX3_isFace 0 = .ok (.iload_n 0, 1) := by decide +kernel
theorem dX3_isFace_1 : decode cX3_isFace 1 = .ok (.iconst 1, 1) := by decide +kernel
theorem dX3_isFace_2 : decode cX3_isFace 2 = .ok (.if_icmp .lt 13, 3) := by decide +kernel
theorem dX3_isFace_5 : decode cX3_isFace 5 = .ok (.iload_n 0, 1) := by decide +kernel
theorem dX3_isFace_6 : decode cX3_isFace 6 = .ok (.bipush 6, 2) := by decide +kernel
theorem dX3_isFace_8 : decode cX3_isFace 8 = .ok (.if_icmp .gt 7, 3) := by decide +kernel
theorem dX3_isFace_11 : decode cX3_isFace 11 = .ok (.iconst 1, 1) := by decide +kernel
theorem dX3_isFace_12 : decode cX3_isFace 12 = .ok (.goto 4, 3) := by decide +kernel
theorem dX3_isFace_15 : decode cX3_isFace 15 = .ok (.iconst 0, 1) := by decide +kernel
theorem dX3_isFace_16 : decode cX3_isFace 16 = .ok (.ireturn, 1) := by decide +kernel
theorem dX3_isSide_0 : decode cX3_isSide 0 = .ok (.iload_n 0, 1) := by decide +kernel
theorem dX3_isSide_1 : decode cX3_isSide 1 = .ok (.iconst 2, 1) := by decide +kernel
theorem dX3_isSide_2 : decode cX3_isSide 2 = .ok (.if_icmp .lt 13, 3) := by decide +kernel
theorem dX3_isSide_5 : decode cX3_isSide 5 = .ok (.iload_n 0, 1) := by decide +kernel
theorem dX3_isSide_6 : decode cX3_isSide 6 = .ok (.bipush 7, 2) := by decide +kernel
theorem dX3_isSide_8 : decode cX3_isSide 8 = .ok (.if_icmp .gt 7, 3) := by decide +kernel
theorem dX3_isSide_11 : decode cX3_isSide 11 = .ok (.iconst 1, 1) := by decide +kernel
theorem dX3_isSide_12 : decode cX3_isSide 12 = .ok (.goto 4, 3) := by decide +kernel
theorem dX3_isSide_15 : decode cX3_isSide 15 = .ok (.iconst 0, 1) := by decide +kernel
theorem dX3_isSide_16 : decode cX3_isSide 16 = .ok (.ireturn, 1) := by decide +kernel
