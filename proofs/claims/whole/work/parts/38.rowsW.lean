/-! rows of the law, by program -/
set_option maxRecDepth 20000 in
theorem ggL_newBoard_X3_newBoard : GoodIn wsL_newBoard wsX3_newBoard := goodIn_ca (goodIn_r _ [6, 7, 8, 9, 10, 5, 11, 12, 13, 14, 15, 16, 17, 18, 19, 20, 21, 22, 23, 24, 25, 26, 27, 28, 29, 30, 31, 32, 33, 34, 35, 36, 37, 38, 39, 40] (by decide +kernel) (by decide +kernel)) (goodIn_sub (fun _ h => List.mem_cons_of_mem _ (List.mem_append_right _ h)) (by decide +kernel))
set_option maxRecDepth 20000 in
theorem gL_newBoard_X3_newBoard : GoodIn wsL_newBoard (wsV RL 7 RX3 yX3_newBoard wsX3_newBoard) := goodIn_app (goodIn_of _ (by decide +kernel)) ggL_newBoard_X3_newBoard
theorem dL_newBoard_0 : decode cL_newBoard 0 = .ok (.aload_n 3, 1) := by decide +kernel
theorem dL_newBoard_1 : decode cL_newBoard 1 = .ok (.iconst 0, 1) := by decide +kernel
theorem dL_newBoard_2 : decode cL_newBoard 2 = .ok (.aload_n 0, 1) := by decide +kernel
theorem dL_newBoard_3 : decode cL_newBoard 3 = .ok (.iload_n 1, 1) := by decide +kernel
theorem dL_newBoard_4 : decode cL_newBoard 4 = .ok (.iload_n 2, 1) := by decide +kernel
theorem dL_newBoard_5 : decode cL_newBoard 5 = .ok (.invokevirtual 7, 3) := by decide +kernel
theorem dL_newBoard_8 : decode cL_newBoard 8 = .ok (.i2l, 1) := by decide +kernel
theorem dL_newBoard_9 : decode cL_newBoard 9 = .ok (.lastore, 1) := by decide +kernel
theorem dL_newBoard_10 : decode cL_newBoard 10 = .ok (.goto 7, 3) := by decide +kernel
theorem dL_newBoard_13 : decode cL_newBoard 13 = .ok (.astore 4, 2) := by decide +kernel
theorem dL_newBoard_15 : decode cL_newBoard 15 = .ok (.iconst 1, 1) := by decide +kernel
theorem dL_newBoard_16 : decode cL_newBoard 16 = .ok (.ireturn, 1) := by decide +kernel
theorem dL_newBoard_17 : decode cL_newBoard 17 = .ok (.iconst 0, 1) := by decide +kernel
theorem dL_newBoard_18 : decode cL_newBoard 18 = .ok (.ireturn, 1) := by decide +kernel
set_option maxRecDepth 20000 in
theorem ggL_turnWall_X3_turnWall : GoodIn wsL_turnWall wsX3_turnWall := goodIn_ca (goodIn_ca (goodIn_r _ [7, 8, 9, 10, 11, 12, 13, 14, 6, 15, 16, 17, 18, 19, 20, 21, 22, 23, 24, 25, 26, 27, 28, 29, 30, 31, 32, 33, 34, 35, 36, 37, 38, 39, 40, 41] (by decide +kernel) (by decide +kernel)) (goodIn_sub (fun _ h => List.mem_cons_of_mem _ (List.mem_append_left _ (List.mem_append_right _ h))) (by decide +kernel))) (goodIn_sub (fun _ h => List.mem_cons_of_mem _ (List.mem_append_right _ h)) (by decide +kernel))
set_option maxRecDepth 20000 in
theorem gL_turnWall_X3_turnWall : GoodIn wsL_turnWall (wsV RL 15 RX3 yX3_turnWall wsX3_turnWall) := goodIn_app (goodIn_of _ (by decide +kernel)) ggL_turnWall_X3_turnWall
theorem dL_turnWall_0 : decode cL_turnWall 0 = .ok (.aload_n 3, 1) := by decide +kernel
theorem dL_turnWall_1 : decode cL_turnWall 1 = .ok (.iconst 0, 1) := by decide +kernel
theorem dL_turnWall_2 : decode cL_turnWall 2 = .ok (.aload_n 0, 1) := by decide +kernel
theorem dL_turnWall_3 : decode cL_turnWall 3 = .ok (.iload_n 1, 1) := by decide +kernel
theorem dL_turnWall_4 : decode cL_turnWall 4 = .ok (.iload_n 2, 1) := by decide +kernel
theorem dL_turnWall_5 : decode cL_turnWall 5 = .ok (.invokevirtual 15, 3) := by decide +kernel
theorem dL_turnWall_8 : decode cL_turnWall 8 = .ok (.ifCond .eq 7, 3) := by decide +kernel
theorem dL_turnWall_11 : decode cL_turnWall 11 = .ok (.lconst 1, 1) := by decide +kernel
theorem dL_turnWall_12 : decode cL_turnWall 12 = .ok (.goto 4, 3) := by decide +kernel
theorem dL_turnWall_15 : decode cL_turnWall 15 = .ok (.lconst 0, 1) := by decide +kernel
theorem dL_turnWall_16 : decode cL_turnWall 16 = .ok (.lastore, 1) := by decide +kernel
theorem dL_turnWall_17 : decode cL_turnWall 17 = .ok (.goto 11, 3) := by decide +kernel
theorem dL_turnWall_20 : decode cL_turnWall 20 = .ok (.astore 4, 2) := by decide +kernel
theorem dL_turnWall_22 : decode cL_turnWall 22 = .ok (.iconst 1, 1) := by decide +kernel
theorem dL_turnWall_23 : decode cL_turnWall 23 = .ok (.ireturn, 1) := by decide +kernel
theorem dL_turnWall_24 : decode cL_turnWall 24 = .ok (.astore 4, 2) := by decide +kernel
theorem dL_turnWall_26 : decode cL_turnWall 26 = .ok (.iconst 2, 1) := by decide +kernel
theorem dL_turnWall_27 : decode cL_turnWall 27 = .ok (.ireturn, 1) := by decide +kernel
theorem dL_turnWall_28 : decode cL_turnWall 28 = .ok (.iconst 0, 1) := by decide +kernel
theorem dL_turnWall_29 : decode cL_turnWall 29 = .ok (.ireturn, 1) := by decide +kernel
set_option maxRecDepth 20000 in
theorem ggL_setColour_X3_setColour : GoodIn wsL_setColour wsX3_setColour := goodIn_ca (goodIn_ca (goodIn_r _ [7, 8, 9, 10, 11, 12, 6, 13, 14, 15, 16, 17, 18, 19, 20, 21, 22, 23, 24, 25, 26] (by decide +kernel) (by decide +kernel)) (goodIn_sub (fun _ h => List.mem_cons_of_mem _ (List.mem_append_left _ (List.mem_append_right _ h))) (by decide +kernel))) (goodIn_sub (fun _ h => List.mem_cons_of_mem _ (List.mem_append_right _ h)) (by decide +kernel))
set_option maxRecDepth 20000 in
theorem gL_setColour_X3_setColour : GoodIn wsL_setColour (wsV RL 23 RX3 yX3_setColour wsX3_setColour) := goodIn_app (goodIn_of _ (by decide +kernel)) ggL_setColour_X3_setColour
theorem dL_setColour_0 : decode cL_setColour 0 = .ok (.aload_n 3, 1) := by decide +kernel
theorem dL_setColour_1 : decode cL_setColour 1 = .ok (.iconst 0, 1) := by decide +kernel
theorem dL_setColour_2 : decode cL_setColour 2 = .ok (.aload_n 0, 1) := by decide +kernel
theorem dL_setColour_3 : decode cL_setColour 3 = .ok (.iload_n 1, 1) := by decide +kernel
theorem dL_setColour_4 : decode cL_setColour 4 = .ok (.iload_n 2, 1) := by decide +kernel
theorem dL_setColour_5 : decode cL_setColour 5 = .ok (.invokevirtual 23, 3) := by decide +kernel
theorem dL_setColour_8 : decode cL_setColour 8 = .ok (.i2l, 1) := by decide +kernel
theorem dL_setColour_9 : decode cL_setColour 9 = .ok (.lastore, 1) := by decide +kernel
theorem dL_setColour_10 : decode cL_setColour 10 = .ok (.goto 11, 3) := by decide +kernel
theorem dL_setColour_13 : decode cL_setColour 13 = .ok (.astore 4, 2) := by decide +kernel
theorem dL_setColour_15 : decode cL_setColour 15 = .ok (.iconst 1, 1) := by decide +kernel
theorem dL_setColour_16 : decode cL_setColour 16 = .ok (.ireturn, 1) := by decide +kernel
theorem dL_setColour_17 : decode cL_setColour 17 = .ok (.astore 4, 2) := by decide +kernel
theorem dL_setColour_19 : decode cL_setColour 19 = .ok (.iconst 2, 1) := by decide +kernel
theorem dL_setColour_20 : decode cL_setColour 20 = .ok (.ireturn, 1) := by decide +kernel
theorem dL_setColour_21 : decode cL_setColour 21 = .ok (.iconst 0, 1) := by decide +kernel
theorem dL_setColour_22 : decode cL_setColour 22 = .ok (.ireturn, 1) := by decide +kernel
set_option maxRecDepth 20000 in
theorem ggL_addPaint_X3_addPaint : GoodIn wsL_addPaint wsX3_addPaint := goodIn_ca (goodIn_ca (goodIn_r _ [7, 8, 9, 10, 11, 12, 13, 14, 15, 16, 6, 17, 18, 19, 20, 21, 22, 23, 24, 25, 26, 27, 28, 29, 30] (by decide +kernel) (by decide +kernel)) (goodIn_sub (fun _ h => List.mem_cons_of_mem _ (List.mem_append_left _ (List.mem_append_right _ h))) (by decide +kernel))) (goodIn_sub (fun _ h => List.mem_cons_of_mem _ (List.mem_append_right _ h)) (by decide +kernel))
set_option maxRecDepth 20000 in
theorem gL_addPaint_X3_addPaint : GoodIn wsL_addPaint (wsV RL 26 RX3 yX3_addPaint wsX3_addPaint) := goodIn_app (goodIn_of _ (by decide +kernel)) ggL_addPaint_X3_addPaint
theorem dL_addPaint_0 : decode cL_addPaint 0 = .ok (.aload_n 3, 1) := by decide +kernel
theorem dL_addPaint_1 : decode cL_addPaint 1 = .ok (.iconst 0, 1) := by decide +kernel
theorem dL_addPaint_2 : decode cL_addPaint 2 = .ok (.aload_n 0, 1) := by decide +kernel
theorem dL_addPaint_3 : decode cL_addPaint 3 = .ok (.iload_n 1, 1) := by decide +kernel
theorem dL_addPaint_4 : decode cL_addPaint 4 = .ok (.iload_n 2, 1) := by decide +kernel
theorem dL_addPaint_5 : decode cL_addPaint 5 = .ok (.invokevirtual 26, 3) := by decide +kernel
theorem dL_addPaint_8 : decode cL_addPaint 8 = .ok (.i2l, 1) := by decide +kernel
theorem dL_addPaint_9 : decode cL_addPaint 9 = .ok (.lastore, 1) := by decide +kernel
theorem dL_addPaint_10 : decode cL_addPaint 10 = .ok (.goto 11, 3) := by decide +kernel
theorem dL_addPaint_13 : decode cL_addPaint 13 = .ok (.astore 4, 2) := by decide +kernel
theorem dL_addPaint_15 : decode cL_addPaint 15 = .ok (.iconst 1, 1) := by decide +kernel
theorem dL_addPaint_16 : decode cL_addPaint 16 = .ok (.ireturn, 1) := by decide +kernel
theorem dL_addPaint_17 : decode cL_addPaint 17 = .ok (.astore 4, 2) := by decide +kernel
theorem dL_addPaint_19 : decode cL_addPaint 19 = .ok (.iconst 2, 1) := by decide +kernel
theorem dL_addPaint_20 : decode cL_addPaint 20 = .ok (.ireturn, 1) := by decide +kernel
theorem dL_addPaint_21 : decode cL_addPaint 21 = .ok (.iconst 0, 1) := by decide +kernel
theorem dL_addPaint_22 : decode cL_addPaint 22 = .ok (.ireturn, 1) := by decide +kernel
set_option maxRecDepth 20000 in
theorem ggL_put_X3_put : GoodIn wsL_put wsX3_put := goodIn_ca (goodIn_ca (goodIn_r _ [7, 8, 9, 10, 11, 12, 13, 14, 15, 16, 17, 18, 19, 6, 20, 21, 22, 23, 24, 25, 26, 27, 28, 29, 30, 31, 32, 33, 34, 35, 36, 37, 38, 39, 40, 41, 42, 43, 44, 45, 46, 47, 48, 49, 50, 51, 52, 53, 54, 55, 56, 57, 58, 59, 60] (by decide +kernel) (by decide +kernel)) (goodIn_sub (fun _ h => List.mem_cons_of_mem _ (List.mem_append_left _ (List.mem_append_right _ h))) (by decide +kernel))) (goodIn_sub (fun _ h => List.mem_cons_of_mem _ (List.mem_append_right _ h)) (by decide +kernel))
set_option maxRecDepth 20000 in
theorem gL_put_X3_put : GoodIn wsL_put (wsV RL 29 RX3 yX3_put wsX3_put) := goodIn_app (goodIn_of _ (by decide +kernel)) ggL_put_X3_put
theorem dL_put_0 : decode cL_put 0 = .ok (.aload_n 3, 1) := by decide +kernel
theorem dL_put_1 : decode cL_put 1 = .ok (.iconst 0, 1) := by decide +kernel
theorem dL_put_2 : decode cL_put 2 = .ok (.aload_n 0, 1) := by decide +kernel
theorem dL_put_3 : decode cL_put 3 = .ok (.iload_n 1, 1) := by decide +kernel
theorem dL_put_4 : decode cL_put 4 = .ok (.iload_n 2, 1) := by decide +kernel
theorem dL_put_5 : decode cL_put 5 = .ok (.invokevirtual 29, 3) := by decide +kernel
theorem dL_put_8 : decode cL_put 8 = .ok (.i2l, 1) := by decide +kernel
theorem dL_put_9 : decode cL_put 9 = .ok (.lastore, 1) := by decide +kernel
theorem dL_put_10 : decode cL_put 10 = .ok (.goto 11, 3) := by decide +kernel
theorem dL_put_13 : decode cL_put 13 = .ok (.astore 4, 2) := by decide +kernel
theorem dL_put_15 : decode cL_put 15 = .ok (.iconst 1, 1) := by decide +kernel
theorem dL_put_16 : decode cL_put 16 = .ok (.ireturn, 1) := by decide +kernel
theorem dL_put_17 : decode cL_put 17 = .ok (.astore 4, 2) := by decide +kernel
theorem dL_put_19 : decode cL_put 19 = .ok (.iconst 2, 1) := by decide +kernel
theorem dL_put_20 : decode cL_put 20 = .ok (.ireturn, 1) := by decide +kernel
theorem dL_put_21 : decode cL_put 21 = .ok (.iconst 0, 1) := by decide +kernel
theorem dL_put_22 : decode cL_put 22 = .ok (.ireturn, 1) := by decide +kernel
set_option maxRecDepth 20000 in
theorem ggL_roll_X3_roll : GoodIn wsL_roll wsX3_roll := goodIn_ca (goodIn_ca (goodIn_r _ [7, 8, 9, 10, 11, 6, 12, 13, 14, 15, 16, 17, 18, 19, 20, 21, 22, 23, 24, 25, 26, 27, 28, 29, 30, 31, 32, 33, 34, 35, 36, 37, 38, 39, 40, 41, 42, 43, 44, 45, 46, 47, 48, 49, 50, 51, 52, 53, 54, 55, 56, 57, 58, 59, 60, 61, 62, 63, 64, 65, 66, 67, 68, 69, 70, 71, 72, 73, 74, 75, 76, 77, 78, 79, 80, 81, 82, 83, 84, 85, 86, 87, 88, 89, 90, 91, 92, 93, 94, 95, 96, 97, 98] (by decide +kernel) (by decide +kernel)) (goodIn_sub (fun _ h => List.mem_cons_of_mem _ (List.mem_append_left _ (List.mem_append_right _ h))) (by decide +kernel))) (goodIn_sub (fun _ h => List.mem_cons_of_mem _ (List.mem_append_right _ h)) (by decide +kernel))
set_option maxRecDepth 20000 in
theorem gL_roll_X3_roll : GoodIn wsL_roll (wsV RL 32 RX3 yX3_roll wsX3_roll) := goodIn_app (goodIn_of _ (by decide +kernel)) ggL_roll_X3_roll
theorem dL_roll_0 : decode cL_roll 0 = .ok (.aload_n 2, 1) := by decide +kernel
theorem dL_roll_1 : decode cL_roll 1 = .ok (.iconst 0, 1) := by decide +kernel
theorem dL_roll_2 : decode cL_roll 2 = .ok (.aload_n 0, 1) := by decide +kernel
theorem dL_roll_3 : decode cL_roll 3 = .ok (.iload_n 1, 1) := by decide +kernel
theorem dL_roll_4 : decode cL_roll 4 = .ok (.invokevirtual 32, 3) := by decide +kernel
theorem dL_roll_7 : decode cL_roll 7 = .ok (.i2l, 1) := by decide +kernel
theorem dL_roll_8 : decode cL_roll 8 = .ok (.lastore, 1) := by decide +kernel
theorem dL_roll_9 : decode cL_roll 9 = .ok (.goto 9, 3) := by decide +kernel
theorem dL_roll_12 : decode cL_roll 12 = .ok (.astore_n 3, 1) := by decide +kernel
theorem dL_roll_13 : decode cL_roll 13 = .ok (.iconst 1, 1) := by decide +kernel
theorem dL_roll_14 : decode cL_roll 14 = .ok (.ireturn, 1) := by decide +kernel
theorem dL_roll_15 : decode cL_roll 15 = .ok (.astore_n 3, 1) := by decide +kernel
theorem dL_roll_16 : decode cL_roll 16 = .ok (.iconst 2, 1) := by decide +kernel
theorem dL_roll_17 : decode cL_roll 17 = .ok (.ireturn, 1) := by decide +kernel
theorem dL_roll_18 : decode cL_roll 18 = .ok (.iconst 0, 1) := by decide +kernel
theorem dL_roll_19 : decode cL_roll 19 = .ok (.ireturn, 1) := by decide +kernel
set_option maxRecDepth 20000 in
theorem ggL_rollOn_X3_rollOn : GoodIn wsL_rollOn wsX3_rollOn := goodIn_ca (goodIn_ca (goodIn_r _ [7, 8, 9, 10, 11, 6, 12, 13, 14, 15, 16, 17, 18, 19, 20, 21, 22, 23, 24, 25, 26, 27, 28, 29, 30, 31, 32, 33, 34, 35, 36, 37, 38, 39, 40, 41, 42, 43, 44, 45, 46, 47, 48, 49, 50, 51, 52, 53, 54, 55, 56, 57, 58, 59, 60, 61, 62, 63, 64, 65, 66, 67, 68, 69, 70, 71, 72, 73, 74, 75, 76, 77, 78, 79, 80, 81, 82, 83, 84, 85, 86, 87, 88, 89, 90, 91, 92, 93, 94, 95, 96, 97, 98] (by decide +kernel) (by decide +kernel)) (goodIn_sub (fun _ h => List.mem_cons_of_mem _ (List.mem_append_left _ (List.mem_append_right _ h))) (by decide +kernel))) (goodIn_sub (fun _ h => List.mem_cons_of_mem _ (List.mem_append_right _ h)) (by decide +kernel))
set_option maxRecDepth 20000 in
theorem gL_rollOn_X3_rollOn : GoodIn wsL_rollOn (wsV RL 36 RX3 yX3_rollOn wsX3_rollOn) := goodIn_app (goodIn_of _ (by decide +kernel)) ggL_rollOn_X3_rollOn
theorem dL_rollOn_0 : decode cL_rollOn 0 = .ok (.aload_n 3, 1) := by decide +kernel
theorem dL_rollOn_1 : decode cL_rollOn 1 = .ok (.iconst 0, 1) := by decide +kernel
theorem dL_rollOn_2 : decode cL_rollOn 2 = .ok (.aload_n 0, 1) := by decide +kernel
theorem dL_rollOn_3 : decode cL_rollOn 3 = .ok (.iload_n 1, 1) := by decide +kernel
theorem dL_rollOn_4 : decode cL_rollOn 4 = .ok (.iload_n 2, 1) := by decide +kernel
theorem dL_rollOn_5 : decode cL_rollOn 5 = .ok (.invokevirtual 36, 3) := by decide +kernel
theorem dL_rollOn_8 : decode cL_rollOn 8 = .ok (.i2l, 1) := by decide +kernel
theorem dL_rollOn_9 : decode cL_rollOn 9 = .ok (.lastore, 1) := by decide +kernel
theorem dL_rollOn_10 : decode cL_rollOn 10 = .ok (.goto 11, 3) := by decide +kernel
theorem dL_rollOn_13 : decode cL_rollOn 13 = .ok (.astore 4, 2) := by decide +kernel
theorem dL_rollOn_15 : decode cL_rollOn 15 = .ok (.iconst 1, 1) := by decide +kernel
theorem dL_rollOn_16 : decode cL_rollOn 16 = .ok (.ireturn, 1) := by decide +kernel
theorem dL_rollOn_17 : decode cL_rollOn 17 = .ok (.astore 4, 2) := by decide +kernel
theorem dL_rollOn_19 : decode cL_rollOn 19 = .ok (.iconst 2, 1) := by decide +kernel
theorem dL_rollOn_20 : decode cL_rollOn 20 = .ok (.ireturn, 1) := by decide +kernel
theorem dL_rollOn_21 : decode cL_rollOn 21 = .ok (.iconst 0, 1) := by decide +kernel
theorem dL_rollOn_22 : decode cL_rollOn 22 = .ok (.ireturn, 1) := by decide +kernel
set_option maxRecDepth 20000 in
theorem ggL_faceTo_X3_faceTo : GoodIn wsL_faceTo wsX3_faceTo := goodIn_ca (goodIn_r _ [6, 7, 8, 9, 5, 10, 11, 12, 13, 14, 15, 16, 17, 18, 19, 20, 21, 22, 23, 24, 25, 26, 27, 28, 29, 30, 31, 32, 33, 34, 35] (by decide +kernel) (by decide +kernel)) (goodIn_sub (fun _ h => List.mem_cons_of_mem _ (List.mem_append_right _ h)) (by decide +kernel))
set_option maxRecDepth 20000 in
theorem gL_faceTo_X3_faceTo : GoodIn wsL_faceTo (wsV RL 39 RX3 yX3_faceTo wsX3_faceTo) := goodIn_app (goodIn_of _ (by decide +kernel)) ggL_faceTo_X3_faceTo
theorem dL_faceTo_0 : decode cL_faceTo 0 = .ok (.aload_n 2, 1) := by decide +kernel
theorem dL_faceTo_1 : decode cL_faceTo 1 = .ok (.iconst 0, 1) := by decide +kernel
theorem dL_faceTo_2 : decode cL_faceTo 2 = .ok (.aload_n 0, 1) := by decide +kernel
theorem dL_faceTo_3 : decode cL_faceTo 3 = .ok (.iload_n 1, 1) := by decide +kernel
theorem dL_faceTo_4 : decode cL_faceTo 4 = .ok (.invokevirtual 39, 3) := by decide +kernel
theorem dL_faceTo_7 : decode cL_faceTo 7 = .ok (.i2l, 1) := by decide +kernel
theorem dL_faceTo_8 : decode cL_faceTo 8 = .ok (.lastore, 1) := by decide +kernel
theorem dL_faceTo_9 : decode cL_faceTo 9 = .ok (.goto 6, 3) := by decide +kernel
theorem dL_faceTo_12 : decode cL_faceTo 12 = .ok (.astore_n 3, 1) := by decide +kernel
theorem dL_faceTo_13 : decode cL_faceTo 13 = .ok (.iconst 1, 1) := by decide +kernel
theorem dL_faceTo_14 : decode cL_faceTo 14 = .ok (.ireturn, 1) := by decide +kernel
theorem dL_faceTo_15 : decode cL_faceTo 15 = .ok (.iconst 0, 1) := by decide +kernel
theorem dL_faceTo_16 : decode cL_faceTo 16 = .ok (.ireturn, 1) := by decide +kernel
set_option maxRecDepth 20000 in
theorem ggL_colourOf_X3_colourOf : GoodIn wsL_colourOf wsX3_colourOf := goodIn_ca (goodIn_r _ [6, 7, 8, 9, 5, 10, 11, 12, 13, 14, 15, 16, 17, 18, 19, 20, 21, 22, 23] (by decide +kernel) (by decide +kernel)) (goodIn_sub (fun _ h => List.mem_cons_of_mem _ (List.mem_append_right _ h)) (by decide +kernel))
set_option maxRecDepth 20000 in
theorem gL_colourOf_X3_colourOf : GoodIn wsL_colourOf (wsV RL 42 RX3 yX3_colourOf wsX3_colourOf) := goodIn_app (goodIn_of _ (by decide +kernel)) ggL_colourOf_X3_colourOf
theorem dL_colourOf_0 : decode cL_colourOf 0 = .ok (.aload_n 2, 1) := by decide +kernel
theorem dL_colourOf_1 : decode cL_colourOf 1 = .ok (.iconst 0, 1) := by decide +kernel
theorem dL_colourOf_2 : decode cL_colourOf 2 = .ok (.aload_n 0, 1) := by decide +kernel
theorem dL_colourOf_3 : decode cL_colourOf 3 = .ok (.iload_n 1, 1) := by decide +kernel
theorem dL_colourOf_4 : decode cL_colourOf 4 = .ok (.invokevirtual 42, 3) := by decide +kernel
theorem dL_colourOf_7 : decode cL_colourOf 7 = .ok (.i2l, 1) := by decide +kernel
theorem dL_colourOf_8 : decode cL_colourOf 8 = .ok (.lastore, 1) := by decide +kernel
theorem dL_colourOf_9 : decode cL_colourOf 9 = .ok (.goto 6, 3) := by decide +kernel
theorem dL_colourOf_12 : decode cL_colourOf 12 = .ok (.astore_n 3, 1) := by decide +kernel
theorem dL_colourOf_13 : decode cL_colourOf 13 = .ok (.iconst 1, 1) := by decide +kernel
theorem dL_colourOf_14 : decode cL_colourOf 14 = .ok (.ireturn, 1) := by decide +kernel
theorem dL_colourOf_15 : decode cL_colourOf 15 = .ok (.iconst 0, 1) := by decide +kernel
theorem dL_colourOf_16 : decode cL_colourOf 16 = .ok (.ireturn, 1) := by decide +kernel
set_option maxRecDepth 20000 in
theorem ggL_paintOf_X3_paintOf : GoodIn wsL_paintOf wsX3_paintOf := goodIn_ca (goodIn_r _ [6, 7, 8, 9, 5, 10, 11, 12, 13, 14, 15, 16, 17, 18, 19, 20, 21, 22, 23] (by decide +kernel) (by decide +kernel)) (goodIn_sub (fun _ h => List.mem_cons_of_mem _ (List.mem_append_right _ h)) (by decide +kernel))
set_option maxRecDepth 20000 in
theorem gL_paintOf_X3_paintOf : GoodIn wsL_paintOf (wsV RL 45 RX3 yX3_paintOf wsX3_paintOf) := goodIn_app (goodIn_of _ (by decide +kernel)) ggL_paintOf_X3_paintOf
theorem dL_paintOf_0 : decode cL_paintOf 0 = .ok (.aload_n 2, 1) := by decide +kernel
theorem dL_paintOf_1 : decode cL_paintOf 1 = .ok (.iconst 0, 1) := by decide +kernel
theorem dL_paintOf_2 : decode cL_paintOf 2 = .ok (.aload_n 0, 1) := by decide +kernel
theorem dL_paintOf_3 : decode cL_paintOf 3 = .ok (.iload_n 1, 1) := by decide +kernel
theorem dL_paintOf_4 : decode cL_paintOf 4 = .ok (.invokevirtual 45, 3) := by decide +kernel
theorem dL_paintOf_7 : decode cL_paintOf 7 = .ok (.i2l, 1) := by decide +kernel
theorem dL_paintOf_8 : decode cL_paintOf 8 = .ok (.lastore, 1) := by decide +kernel
theorem dL_paintOf_9 : decode cL_paintOf 9 = .ok (.goto 6, 3) := by decide +kernel
theorem dL_paintOf_12 : decode cL_paintOf 12 = .ok (.astore_n 3, 1) := by decide +kernel
theorem dL_paintOf_13 : decode cL_paintOf 13 = .ok (.iconst 1, 1) := by decide +kernel
theorem dL_paintOf_14 : decode cL_paintOf 14 = .ok (.ireturn, 1) := by decide +kernel
theorem dL_paintOf_15 : decode cL_paintOf 15 = .ok (.iconst 0, 1) := by decide +kernel
theorem dL_paintOf_16 : decode cL_paintOf 16 = .ok (.ireturn, 1) := by decide +kernel
set_option maxRecDepth 20000 in
theorem ggL_isWall_X3_isWall : GoodIn wsL_isWall wsX3_isWall := goodIn_ca (goodIn_r _ [6, 7, 8, 9, 10, 5, 11, 12, 13, 14, 15, 16, 17, 18, 19, 20, 21, 22, 23, 24, 25, 26, 27, 28, 29, 30, 31, 32, 33, 34, 35, 36, 37, 38, 39] (by decide +kernel) (by decide +kernel)) (goodIn_sub (fun _ h => List.mem_cons_of_mem _ (List.mem_append_right _ h)) (by decide +kernel))
set_option maxRecDepth 20000 in
theorem gL_isWall_X3_isWall : GoodIn wsL_isWall (wsV RL 48 RX3 yX3_isWall wsX3_isWall) := goodIn_app (goodIn_of _ (by decide +kernel)) ggL_isWall_X3_isWall
theorem dL_isWall_0 : decode cL_isWall 0 = .ok (.aload_n 3, 1) := by decide +kernel
theorem dL_isWall_1 : decode cL_isWall 1 = .ok (.iconst 0, 1) := by decide +kernel
theorem dL_isWall_2 : decode cL_isWall 2 = .ok (.aload_n 0, 1) := by decide +kernel
theorem dL_isWall_3 : decode cL_isWall 3 = .ok (.iload_n 1, 1) := by decide +kernel
theorem dL_isWall_4 : decode cL_isWall 4 = .ok (.iload_n 2, 1) := by decide +kernel
theorem dL_isWall_5 : decode cL_isWall 5 = .ok (.invokevirtual 48, 3) := by decide +kernel
theorem dL_isWall_8 : decode cL_isWall 8 = .ok (.ifCond .eq 7, 3) := by decide +kernel
theorem dL_isWall_11 : decode cL_isWall 11 = .ok (.lconst 1, 1) := by decide +kernel
theorem dL_isWall_12 : decode cL_isWall 12 = .ok (.goto 4, 3) := by decide +kernel
theorem dL_isWall_15 : decode cL_isWall 15 = .ok (.lconst 0, 1) := by decide +kernel
theorem dL_isWall_16 : decode cL_isWall 16 = .ok (.lastore, 1) := by decide +kernel
theorem dL_isWall_17 : decode cL_isWall 17 = .ok (.goto 7, 3) := by decide +kernel
theorem dL_isWall_20 : decode cL_isWall 20 = .ok (.astore 4, 2) := by decide +kernel
theorem dL_isWall_22 : decode cL_isWall 22 = .ok (.iconst 1, 1) := by decide +kernel
theorem dL_isWall_23 : decode cL_isWall 23 = .ok (.ireturn, 1) := by decide +kernel
theorem dL_isWall_24 : decode cL_isWall 24 = .ok (.iconst 0, 1) := by decide +kernel
theorem dL_isWall_25 : decode cL_isWall 25 = .ok (.ireturn, 1) := by decide +kernel
set_option maxRecDepth 20000 in
theorem ggL_printAt_X3_printAt : GoodIn wsL_printAt wsX3_printAt := goodIn_ca (goodIn_r _ [6, 7, 8, 9, 10, 5, 11, 12, 13, 14, 15, 16, 17, 18, 19, 20, 21, 22, 23, 24, 25, 26, 27, 28, 29, 30, 31, 32, 33, 34, 35, 36, 37, 38, 39] (by decide +kernel) (by decide +kernel)) (goodIn_sub (fun _ h => List.mem_cons_of_mem _ (List.mem_append_right _ h)) (by decide +kernel))
set_option maxRecDepth 20000 in
theorem gL_printAt_X3_printAt : GoodIn wsL_printAt (wsV RL 51 RX3 yX3_printAt wsX3_printAt) := goodIn_app (goodIn_of _ (by decide +kernel)) ggL_printAt_X3_printAt
theorem dL_printAt_0 : decode cL_printAt 0 = .ok (.aload_n 3, 1) := by decide +kernel
theorem dL_printAt_1 : decode cL_printAt 1 = .ok (.iconst 0, 1) := by decide +kernel
theorem dL_printAt_2 : decode cL_printAt 2 = .ok (.aload_n 0, 1) := by decide +kernel
theorem dL_printAt_3 : decode cL_printAt 3 = .ok (.iload_n 1, 1) := by decide +kernel
theorem dL_printAt_4 : decode cL_printAt 4 = .ok (.iload_n 2, 1) := by decide +kernel
theorem dL_printAt_5 : decode cL_printAt 5 = .ok (.invokevirtual 51, 3) := by decide +kernel
theorem dL_printAt_8 : decode cL_printAt 8 = .ok (.i2l, 1) := by decide +kernel
theorem dL_printAt_9 : decode cL_printAt 9 = .ok (.lastore, 1) := by decide +kernel
theorem dL_printAt_10 : decode cL_printAt 10 = .ok (.goto 7, 3) := by decide +kernel
theorem dL_printAt_13 : decode cL_printAt 13 = .ok (.astore 4, 2) := by decide +kernel
theorem dL_printAt_15 : decode cL_printAt 15 = .ok (.iconst 1, 1) := by decide +kernel
theorem dL_printAt_16 : decode cL_printAt 16 = .ok (.ireturn, 1) := by decide +kernel
theorem dL_printAt_17 : decode cL_printAt 17 = .ok (.iconst 0, 1) := by decide +kernel
theorem dL_printAt_18 : decode cL_printAt 18 = .ok (.ireturn, 1) := by decide +kernel
set_option maxRecDepth 20000 in
theorem ggL_canRoll_X3_canRoll : GoodIn wsL_canRoll wsX3_canRoll := goodIn_ca (goodIn_r _ [6, 7, 8, 9, 10, 5, 11, 12, 13, 14, 15, 16, 17, 18, 19, 20, 21, 22, 23, 24, 25, 26, 27, 28, 29, 30, 31, 32, 33, 34, 35, 36, 37, 38, 39, 40, 41, 42, 43, 44, 45, 46, 47, 48, 49] (by decide +kernel) (by decide +kernel)) (goodIn_sub (fun _ h => List.mem_cons_of_mem _ (List.mem_append_right _ h)) (by decide +kernel))
set_option maxRecDepth 20000 in
theorem gL_canRoll_X3_canRoll : GoodIn wsL_canRoll (wsV RL 54 RX3 yX3_canRoll wsX3_canRoll) := goodIn_app (goodIn_of _ (by decide +kernel)) ggL_canRoll_X3_canRoll
theorem dL_canRoll_0 : decode cL_canRoll 0 = .ok (.aload_n 2, 1) := by decide +kernel
theorem dL_canRoll_1 : decode cL_canRoll 1 = .ok (.iconst 0, 1) := by decide +kernel
theorem dL_canRoll_2 : decode cL_canRoll 2 = .ok (.aload_n 0, 1) := by decide +kernel
theorem dL_canRoll_3 : decode cL_canRoll 3 = .ok (.iload_n 1, 1) := by decide +kernel
theorem dL_canRoll_4 : decode cL_canRoll 4 = .ok (.invokevirtual 54, 3) := by decide +kernel
theorem dL_canRoll_7 : decode cL_canRoll 7 = .ok (.ifCond .eq 7, 3) := by decide +kernel
theorem dL_canRoll_10 : decode cL_canRoll 10 = .ok (.lconst 1, 1) := by decide +kernel
theorem dL_canRoll_11 : decode cL_canRoll 11 = .ok (.goto 4, 3) := by decide +kernel
theorem dL_canRoll_14 : decode cL_canRoll 14 = .ok (.lconst 0, 1) := by decide +kernel
theorem dL_canRoll_15 : decode cL_canRoll 15 = .ok (.lastore, 1) := by decide +kernel
theorem dL_canRoll_16 : decode cL_canRoll 16 = .ok (.goto 6, 3) := by decide +kernel
theorem dL_canRoll_19 : decode cL_canRoll 19 = .ok (.astore_n 3, 1) := by decide +kernel
theorem dL_canRoll_20 : decode cL_canRoll 20 = .ok (.iconst 1, 1) := by decide +kernel
theorem dL_canRoll_21 : decode cL_canRoll 21 = .ok (.ireturn, 1) := by decide +kernel
theorem dL_canRoll_22 : decode cL_canRoll 22 = .ok (.iconst 0, 1) := by decide +kernel
theorem dL_canRoll_23 : decode cL_canRoll 23 = .ok (.ireturn, 1) := by decide +kernel
set_option maxRecDepth 20000 in
theorem ggL_cellsWith_X3_cellsWith : GoodIn wsL_cellsWith wsX3_cellsWith := goodIn_ca (goodIn_r _ [6, 7, 8, 9, 10, 11, 12, 13, 14, 15, 16, 17, 18, 19, 20, 21, 22, 23, 24, 25, 26, 27, 28, 29, 30, 31, 32, 33, 34, 35, 36, 37, 38, 39] (by decide +kernel) (by decide +kernel)) (goodIn_sub (fun _ h => List.mem_cons_of_mem _ (List.mem_append_right _ h)) (by decide +kernel))
set_option maxRecDepth 20000 in
theorem gL_cellsWith_X3_cellsWith : GoodIn wsL_cellsWith (wsV RL 58 RX3 yX3_cellsWith wsX3_cellsWith) := goodIn_app (goodIn_of _ (by decide +kernel)) ggL_cellsWith_X3_cellsWith
theorem dL_cellsWith_0 : decode cL_cellsWith 0 = .ok (.aload_n 2, 1) := by decide +kernel
theorem dL_cellsWith_1 : decode cL_cellsWith 1 = .ok (.iconst 0, 1) := by decide +kernel
theorem dL_cellsWith_2 : decode cL_cellsWith 2 = .ok (.aload_n 0, 1) := by decide +kernel
theorem dL_cellsWith_3 : decode cL_cellsWith 3 = .ok (.iload_n 1, 1) := by decide +kernel
theorem dL_cellsWith_4 : decode cL_cellsWith 4 = .ok (.invokevirtual 58, 3) := by decide +kernel
theorem dL_cellsWith_7 : decode cL_cellsWith 7 = .ok (.i2l, 1) := by decide +kernel
theorem dL_cellsWith_8 : decode cL_cellsWith 8 = .ok (.lastore, 1) := by decide +kernel
theorem dL_cellsWith_9 : decode cL_cellsWith 9 = .ok (.goto 6, 3) := by decide +kernel
theorem dL_cellsWith_12 : decode cL_cellsWith 12 = .ok (.astore_n 3, 1) := by decide +kernel
theorem dL_cellsWith_13 : decode cL_cellsWith 13 = .ok (.iconst 1, 1) := by decide +kernel
theorem dL_cellsWith_14 : decode cL_cellsWith 14 = .ok (.ireturn, 1) := by decide +kernel
theorem dL_cellsWith_15 : decode cL_cellsWith 15 = .ok (.iconst 0, 1) := by decide +kernel
theorem dL_cellsWith_16 : decode cL_cellsWith 16 = .ok (.ireturn, 1) := by decide +kernel
set_option maxRecDepth 20000 in
theorem ggL_fewestRolls_X3_fewestRolls : GoodIn wsL_fewestRolls wsX3_fewestRolls := goodIn_ca (goodIn_r _ [6, 7, 8, 9, 10, 5, 11, 12, 13, 14, 15, 16, 17, 18, 19, 20, 21, 22, 23, 24, 25, 26, 27, 28, 29, 30, 31, 32, 33, 34, 35, 36, 37, 38, 39, 40, 41, 42, 43, 44, 45, 46, 47, 48, 49, 50, 51, 52, 53, 54, 55, 56, 57, 58, 59, 60, 61, 62, 63, 64, 65, 66, 67, 68, 69, 70, 71, 72, 73, 74, 75, 76, 77, 78, 79, 80, 81, 82, 83, 84, 85, 86, 87, 88, 89, 90, 91, 92, 93, 94, 95, 96, 97, 98, 99, 100, 101, 102, 103, 104, 105, 106, 107, 108, 109, 110, 111, 112, 113] (by decide +kernel) (by decide +kernel)) (goodIn_sub (fun _ h => List.mem_cons_of_mem _ (List.mem_append_right _ h)) (by decide +kernel))
set_option maxRecDepth 20000 in
theorem gL_fewestRolls_X3_fewestRolls : GoodIn wsL_fewestRolls (wsV RL 61 RX3 yX3_fewestRolls wsX3_fewestRolls) := goodIn_app (goodIn_of _ (by decide +kernel)) ggL_fewestRolls_X3_fewestRolls
theorem dL_fewestRolls_0 : decode cL_fewestRolls 0 = .ok (.aload_n 3, 1) := by decide +kernel
theorem dL_fewestRolls_1 : decode cL_fewestRolls 1 = .ok (.iconst 0, 1) := by decide +kernel
theorem dL_fewestRolls_2 : decode cL_fewestRolls 2 = .ok (.aload_n 0, 1) := by decide +kernel
theorem dL_fewestRolls_3 : decode cL_fewestRolls 3 = .ok (.iload_n 1, 1) := by decide +kernel
theorem dL_fewestRolls_4 : decode cL_fewestRolls 4 = .ok (.iload_n 2, 1) := by decide +kernel
theorem dL_fewestRolls_5 : decode cL_fewestRolls 5 = .ok (.invokevirtual 61, 3) := by decide +kernel
theorem dL_fewestRolls_8 : decode cL_fewestRolls 8 = .ok (.i2l, 1) := by decide +kernel
theorem dL_fewestRolls_9 : decode cL_fewestRolls 9 = .ok (.lastore, 1) := by decide +kernel
theorem dL_fewestRolls_10 : decode cL_fewestRolls 10 = .ok (.goto 7, 3) := by decide +kernel
theorem dL_fewestRolls_13 : decode cL_fewestRolls 13 = .ok (.astore 4, 2) := by decide +kernel
theorem dL_fewestRolls_15 : decode cL_fewestRolls 15 = .ok (.iconst 1, 1) := by decide +kernel
theorem dL_fewestRolls_16 : decode cL_fewestRolls 16 = .ok (.ireturn, 1) := by decide +kernel
theorem dL_fewestRolls_17 : decode cL_fewestRolls 17 = .ok (.iconst 0, 1) := by decide +kernel
theorem dL_fewestRolls_18 : decode cL_fewestRolls 18 = .ok (.ireturn, 1) := by decide +kernel
set_option maxRecDepth 20000 in
theorem ggL_fewestRollsWithTop_X3_fewestRollsWithTop : GoodIn wsL_fewestRollsWithTop wsX3_fewestRollsWithTop := goodIn_ca (goodIn_r _ [6, 7, 8, 9, 10, 5, 11, 12, 13, 14, 15, 16, 17, 18, 19, 20, 21, 22, 23, 24, 25, 26, 27, 28, 29, 30, 31, 32, 33, 34, 35, 36, 37, 38, 39, 40, 41, 42, 43, 44, 45, 46, 47, 48, 49, 50, 51, 52, 53, 54, 55, 56, 57, 58, 59, 60, 61, 62, 63, 64, 65, 66, 67, 68, 69, 70, 71, 72, 73, 74, 75, 76, 77, 78, 79, 80, 81, 82, 83, 84, 85, 86, 87, 88, 89, 90, 91, 92, 93, 94, 95, 96, 97, 98, 99, 100, 101, 102, 103, 104, 105, 106, 107, 108, 109, 110, 111, 112, 113, 114, 115] (by decide +kernel) (by decide +kernel)) (goodIn_sub (fun _ h => List.mem_cons_of_mem _ (List.mem_append_right _ h)) (by decide +kernel))
set_option maxRecDepth 20000 in
theorem gL_fewestRollsWithTop_X3_fewestRollsWithTop : GoodIn wsL_fewestRollsWithTop (wsV RL 64 RX3 yX3_fewestRollsWithTop wsX3_fewestRollsWithTop) := goodIn_app (goodIn_of _ (by decide +kernel)) ggL_fewestRollsWithTop_X3_fewestRollsWithTop
theorem dL_fewestRollsWithTop_0 : decode cL_fewestRollsWithTop 0 = .ok (.aload 4, 2) := by decide +kernel
theorem dL_fewestRollsWithTop_2 : decode cL_fewestRollsWithTop 2 = .ok (.iconst 0, 1) := by decide +kernel
theorem dL_fewestRollsWithTop_3 : decode cL_fewestRollsWithTop 3 = .ok (.aload_n 0, 1) := by decide +kernel
theorem dL_fewestRollsWithTop_4 : decode cL_fewestRollsWithTop 4 = .ok (.iload_n 1, 1) := by decide +kernel
theorem dL_fewestRollsWithTop_5 : decode cL_fewestRollsWithTop 5 = .ok (.iload_n 2, 1) := by decide +kernel
theorem dL_fewestRollsWithTop_6 : decode cL_fewestRollsWithTop 6 = .ok (.iload_n 3, 1) := by decide +kernel
theorem dL_fewestRollsWithTop_7 : decode cL_fewestRollsWithTop 7 = .ok (.invokevirtual 64, 3) := by decide +kernel
theorem dL_fewestRollsWithTop_10 : decode cL_fewestRollsWithTop 10 = .ok (.i2l, 1) := by decide +kernel
theorem dL_fewestRollsWithTop_11 : decode cL_fewestRollsWithTop 11 = .ok (.lastore, 1) := by decide +kernel
theorem dL_fewestRollsWithTop_12 : decode cL_fewestRollsWithTop 12 = .ok (.goto 7, 3) := by decide +kernel
theorem dL_fewestRollsWithTop_15 : decode cL_fewestRollsWithTop 15 = .ok (.astore 5, 2) := by decide +kernel
theorem dL_fewestRollsWithTop_17 : decode cL_fewestRollsWithTop 17 = .ok (.iconst 1, 1) := by decide +kernel
theorem dL_fewestRollsWithTop_18 : decode cL_fewestRollsWithTop 18 = .ok (.ireturn, 1) := by decide +kernel
theorem dL_fewestRollsWithTop_19 : decode cL_fewestRollsWithTop 19 = .ok (.iconst 0, 1) := by decide +kernel
theorem dL_fewestRollsWithTop_20 : decode cL_fewestRollsWithTop 20 = .ok (.ireturn, 1) := by decide +kernel
set_option maxRecDepth 20000 in
theorem ggL_firstRoll_X3_firstRoll : GoodIn wsL_firstRoll wsX3_firstRoll := goodIn_ca (goodIn_r _ [6, 7, 8, 9, 10, 11, 12, 13, 5, 14, 15, 16, 17, 18, 19, 20, 21, 22, 23, 24, 25, 26, 27, 28, 29, 30, 31, 32, 33, 34, 35, 36, 37, 38, 39, 40, 41, 42, 43, 44, 45, 46, 47, 48, 49, 50, 51, 52, 53, 54, 55, 56, 57, 58, 59, 60, 61, 62, 63, 64, 65, 66, 67, 68, 69, 70, 71, 72, 73, 74, 75, 76, 77, 78, 79, 80, 81, 82, 83, 84, 85, 86, 87, 88, 89, 90, 91, 92, 93, 94, 95, 96, 97, 98, 99, 100, 101, 102, 103, 104, 105, 106, 107, 108] (by decide +kernel) (by decide +kernel)) (goodIn_sub (fun _ h => List.mem_cons_of_mem _ (List.mem_append_right _ h)) (by decide +kernel))
set_option maxRecDepth 20000 in
theorem gL_firstRoll_X3_firstRoll : GoodIn wsL_firstRoll (wsV RL 68 RX3 yX3_firstRoll wsX3_firstRoll) := goodIn_app (goodIn_of _ (by decide +kernel)) ggL_firstRoll_X3_firstRoll
theorem dL_firstRoll_0 : decode cL_firstRoll 0 = .ok (.aload 4, 2) := by decide +kernel
theorem dL_firstRoll_2 : decode cL_firstRoll 2 = .ok (.iconst 0, 1) := by decide +kernel
theorem dL_firstRoll_3 : decode cL_firstRoll 3 = .ok (.aload_n 0, 1) := by decide +kernel
theorem dL_firstRoll_4 : decode cL_firstRoll 4 = .ok (.iload_n 1, 1) := by decide +kernel
theorem dL_firstRoll_5 : decode cL_firstRoll 5 = .ok (.iload_n 2, 1) := by decide +kernel
theorem dL_firstRoll_6 : decode cL_firstRoll 6 = .ok (.iload_n 3, 1) := by decide +kernel
theorem dL_firstRoll_7 : decode cL_firstRoll 7 = .ok (.invokevirtual 68, 3) := by decide +kernel
theorem dL_firstRoll_10 : decode cL_firstRoll 10 = .ok (.i2l, 1) := by decide +kernel
theorem dL_firstRoll_11 : decode cL_firstRoll 11 = .ok (.lastore, 1) := by decide +kernel
theorem dL_firstRoll_12 : decode cL_firstRoll 12 = .ok (.goto 7, 3) := by decide +kernel
theorem dL_firstRoll_15 : decode cL_firstRoll 15 = .ok (.astore 5, 2) := by decide +kernel
theorem dL_firstRoll_17 : decode cL_firstRoll 17 = .ok (.iconst 1, 1) := by decide +kernel
theorem dL_firstRoll_18 : decode cL_firstRoll 18 = .ok (.ireturn, 1) := by decide +kernel
theorem dL_firstRoll_19 : decode cL_firstRoll 19 = .ok (.iconst 0, 1) := by decide +kernel
theorem dL_firstRoll_20 : decode cL_firstRoll 20 = .ok (.ireturn, 1) := by decide +kernel
set_option maxRecDepth 20000 in
theorem ggL_topsAt_X3_topsAt : GoodIn wsL_topsAt wsX3_topsAt := goodIn_ca (goodIn_r _ [6, 7, 8, 9, 10, 5, 11, 12, 13, 14, 15, 16, 17, 18, 19, 20, 21, 22, 23, 24, 25, 26, 27, 28, 29, 30, 31, 32, 33, 34, 35, 36, 37, 38, 39, 40, 41, 42, 43, 44, 45, 46, 47, 48, 49, 50, 51, 52, 53, 54, 55, 56, 57, 58, 59, 60, 61, 62, 63, 64, 65, 66, 67, 68, 69, 70, 71, 72, 73, 74, 75, 76, 77, 78, 79, 80, 81, 82, 83, 84, 85, 86, 87, 88, 89, 90, 91, 92, 93, 94, 95, 96, 97, 98, 99, 100, 101, 102, 103, 104, 105, 106, 107, 108, 109, 110, 111, 112, 113] (by decide +kernel) (by decide +kernel)) (goodIn_sub (fun _ h => List.mem_cons_of_mem _ (List.mem_append_right _ h)) (by decide +kernel))
set_option maxRecDepth 20000 in
theorem gL_topsAt_X3_topsAt : GoodIn wsL_topsAt (wsV RL 71 RX3 yX3_topsAt wsX3_topsAt) := goodIn_app (goodIn_of _ (by decide +kernel)) ggL_topsAt_X3_topsAt
theorem dL_topsAt_0 : decode cL_topsAt 0 = .ok (.aload_n 3, 1) := by decide +kernel
theorem dL_topsAt_1 : decode cL_topsAt 1 = .ok (.iconst 0, 1) := by decide +kernel
theorem dL_topsAt_2 : decode cL_topsAt 2 = .ok (.aload_n 0, 1) := by decide +kernel
theorem dL_topsAt_3 : decode cL_topsAt 3 = .ok (.iload_n 1, 1) := by decide +kernel
theorem dL_topsAt_4 : decode cL_topsAt 4 = .ok (.iload_n 2, 1) := by decide +kernel
theorem dL_topsAt_5 : decode cL_topsAt 5 = .ok (.invokevirtual 71, 3) := by decide +kernel
theorem dL_topsAt_8 : decode cL_topsAt 8 = .ok (.i2l, 1) := by decide +kernel
theorem dL_topsAt_9 : decode cL_topsAt 9 = .ok (.lastore, 1) := by decide +kernel
theorem dL_topsAt_10 : decode cL_topsAt 10 = .ok (.goto 7, 3) := by decide +kernel
theorem dL_topsAt_13 : decode cL_topsAt 13 = .ok (.astore 4, 2) := by decide +kernel
theorem dL_topsAt_15 : decode cL_topsAt 15 = .ok (.iconst 1, 1) := by decide +kernel
theorem dL_topsAt_16 : decode cL_topsAt 16 = .ok (.ireturn, 1) := by decide +kernel
theorem dL_topsAt_17 : decode cL_topsAt 17 = .ok (.iconst 0, 1) := by decide +kernel
theorem dL_topsAt_18 : decode cL_topsAt 18 = .ok (.ireturn, 1) := by decide +kernel
set_option maxRecDepth 20000 in
theorem ggL_cellsBehind_X3_cellsBehind : GoodIn wsL_cellsBehind wsX3_cellsBehind := goodIn_ca (goodIn_r _ [6, 7, 8, 9, 10, 11, 12, 5, 13, 14, 15, 16, 17, 18, 19, 20, 21, 22, 23, 24, 25, 26, 27, 28, 29, 30, 31, 32, 33, 34, 35, 36, 37, 38, 39, 40, 41, 42, 43, 44, 45, 46, 47, 48, 49, 50, 51, 52, 53, 54, 55, 56, 57, 58, 59, 60, 61, 62, 63, 64, 65, 66, 67, 68, 69, 70, 71, 72, 73, 74, 75, 76, 77, 78, 79, 80, 81, 82, 83, 84, 85, 86, 87, 88, 89, 90, 91, 92, 93, 94, 95, 96, 97, 98, 99, 100, 101, 102, 103, 104, 105, 106, 107, 108, 109, 110, 111, 112, 113] (by decide +kernel) (by decide +kernel)) (goodIn_sub (fun _ h => List.mem_cons_of_mem _ (List.mem_append_right _ h)) (by decide +kernel))
set_option maxRecDepth 20000 in
theorem gL_cellsBehind_X3_cellsBehind : GoodIn wsL_cellsBehind (wsV RL 74 RX3 yX3_cellsBehind wsX3_cellsBehind) := goodIn_app (goodIn_of _ (by decide +kernel)) ggL_cellsBehind_X3_cellsBehind
theorem dL_cellsBehind_0 : decode cL_cellsBehind 0 = .ok (.aload_n 2, 1) := by decide +kernel
theorem dL_cellsBehind_1 : decode cL_cellsBehind 1 = .ok (.iconst 0, 1) := by decide +kernel
theorem dL_cellsBehind_2 : decode cL_cellsBehind 2 = .ok (.aload_n 0, 1) := by decide +kernel
theorem dL_cellsBehind_3 : decode cL_cellsBehind 3 = .ok (.iload_n 1, 1) := by decide +kernel
theorem dL_cellsBehind_4 : decode cL_cellsBehind 4 = .ok (.invokevirtual 74, 3) := by decide +kernel
theorem dL_cellsBehind_7 : decode cL_cellsBehind 7 = .ok (.i2l, 1) := by decide +kernel
theorem dL_cellsBehind_8 : decode cL_cellsBehind 8 = .ok (.lastore, 1) := by decide +kernel
theorem dL_cellsBehind_9 : decode cL_cellsBehind 9 = .ok (.goto 6, 3) := by decide +kernel
theorem dL_cellsBehind_12 : decode cL_cellsBehind 12 = .ok (.astore_n 3, 1) := by decide +kernel
theorem dL_cellsBehind_13 : decode cL_cellsBehind 13 = .ok (.iconst 1, 1) := by decide +kernel
theorem dL_cellsBehind_14 : decode cL_cellsBehind 14 = .ok (.ireturn, 1) := by decide +kernel
theorem dL_cellsBehind_15 : decode cL_cellsBehind 15 = .ok (.iconst 0, 1) := by decide +kernel
theorem dL_cellsBehind_16 : decode cL_cellsBehind 16 = .ok (.ireturn, 1) := by decide +kernel
set_option maxRecDepth 20000 in
theorem ggL_bestPut_X3_bestPut : GoodIn wsL_bestPut wsX3_bestPut := goodIn_ca (goodIn_r _ [6, 7, 8, 9, 10, 11, 5, 12, 13, 14, 15, 16, 17, 18, 19, 20, 21, 22, 23, 24, 25, 26, 27, 28, 29, 30, 31, 32, 33, 34, 35, 36, 37, 38, 39, 40, 41, 42, 43, 44, 45, 46, 47, 48, 49, 50, 51, 52, 53, 54, 55, 56, 57, 58, 59, 60, 61, 62, 63, 64, 65, 66, 67, 68, 69, 70, 71, 72, 73, 74, 75, 76, 77, 78, 79, 80, 81, 82, 83, 84, 85, 86, 87, 88, 89, 90, 91, 92, 93, 94, 95, 96, 97, 98, 99, 100, 101, 102, 103] (by decide +kernel) (by decide +kernel)) (goodIn_sub (fun _ h => List.mem_cons_of_mem _ (List.mem_append_right _ h)) (by decide +kernel))
set_option maxRecDepth 20000 in
theorem gL_bestPut_X3_bestPut : GoodIn wsL_bestPut (wsV RL 77 RX3 yX3_bestPut wsX3_bestPut) := goodIn_app (goodIn_of _ (by decide +kernel)) ggL_bestPut_X3_bestPut
theorem dL_bestPut_0 : decode cL_bestPut 0 = .ok (.aload_n 2, 1) := by decide +kernel
theorem dL_bestPut_1 : decode cL_bestPut 1 = .ok (.iconst 0, 1) := by decide +kernel
theorem dL_bestPut_2 : decode cL_bestPut 2 = .ok (.aload_n 0, 1) := by decide +kernel
theorem dL_bestPut_3 : decode cL_bestPut 3 = .ok (.iload_n 1, 1) := by decide +kernel
theorem dL_bestPut_4 : decode cL_bestPut 4 = .ok (.invokevirtual 77, 3) := by decide +kernel
theorem dL_bestPut_7 : decode cL_bestPut 7 = .ok (.i2l, 1) := by decide +kernel
theorem dL_bestPut_8 : decode cL_bestPut 8 = .ok (.lastore, 1) := by decide +kernel
theorem dL_bestPut_9 : decode cL_bestPut 9 = .ok (.goto 6, 3) := by decide +kernel
theorem dL_bestPut_12 : decode cL_bestPut 12 = .ok (.astore_n 3, 1) := by decide +kernel
theorem dL_bestPut_13 : decode cL_bestPut 13 = .ok (.iconst 1, 1) := by decide +kernel
theorem dL_bestPut_14 : decode cL_bestPut 14 = .ok (.ireturn, 1) := by decide +kernel
theorem dL_bestPut_15 : decode cL_bestPut 15 = .ok (.iconst 0, 1) := by decide +kernel
theorem dL_bestPut_16 : decode cL_bestPut 16 = .ok (.ireturn, 1) := by decide +kernel
