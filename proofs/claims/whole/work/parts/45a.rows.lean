/-! rows of the law, by program -/
set_option maxRecDepth 20000 in
theorem ggL_law_X3_init : GoodIn wsL_law wsX3_init := goodIn_r _ [9, 10, 11, 12, 13, 14, 15, 16, 17, 18, 19, 20, 21, 22, 23, 24, 25, 26, 27, 28, 29, 30, 31, 32, 33, 34, 35, 36, 37, 2, 38, 39, 40, 41, 42, 43, 44, 45, 46, 47, 728, 729, 730, 731, 695, 696, 697, 698, 699, 700, 701, 702, 732, 733, 734] (by decide +kernel) (by decide +kernel)
set_option maxRecDepth 20000 in
theorem gL_law_X3_init : GoodIn wsL_law (wsX3_init) := ggL_law_X3_init
set_option maxRecDepth 20000 in
theorem ggL_law_X4_init : GoodIn wsL_law wsX4_init := goodIn_r _ [50, 51, 11, 12, 27, 52, 21, 53, 54, 55, 56, 57, 58, 59, 60, 61, 62, 63, 64, 65, 5, 66, 67, 68, 69, 70, 71, 72, 73, 74, 75, 76, 77, 78, 703, 704, 705, 706, 707, 708, 709, 710, 711, 712, 713, 714, 715, 716, 717, 718, 719, 720, 721, 722, 723, 724, 725, 726, 727] (by decide +kernel) (by decide +kernel)
set_option maxRecDepth 20000 in
theorem gL_law_X4_init : GoodIn wsL_law (wsX4_init) := ggL_law_X4_init
set_option maxRecDepth 20000 in
theorem ggL_law_L_newBoard : GoodIn wsL_law wsL_newBoard := goodIn_ca (goodIn_r _ [82, 83, 84, 85, 86, 2, 87, 88, 89, 90, 91, 92, 35, 36, 37, 38, 16, 39, 40, 41, 42, 43, 15, 44, 45, 46, 47, 28, 29, 695, 696, 697, 698, 699, 700, 701, 702, 728, 729, 730, 731] (by decide +kernel) (by decide +kernel)) (goodIn_sub (fun _ h => List.mem_append_left _ (List.mem_append_left _ (List.mem_append_right _ h))) (by decide +kernel))
set_option maxRecDepth 20000 in
theorem gL_law_L_newBoard : GoodIn wsL_law (va_wsS RL 84 yL_newBoard wsL_newBoard) := goodIn_app (goodIn_of _ (by decide +kernel)) ggL_law_L_newBoard
set_option maxRecDepth 20000 in
theorem ggL_law_X4_newBoard : GoodIn wsL_law wsX4_newBoard := goodIn_r _ [96, 97, 67, 68, 98, 99, 5, 100, 101, 102, 103, 104, 63, 64, 65, 66, 69, 70, 71, 52, 53, 72, 73, 74, 75, 76, 77, 78, 703, 704, 705, 706, 707, 708, 709, 710, 711, 712, 713, 714, 715, 716, 717, 718, 719, 720, 721, 722, 723, 724, 725, 726, 727] (by decide +kernel) (by decide +kernel)
set_option maxRecDepth 20000 in
theorem gL_law_X4_newBoard : GoodIn wsL_law (wsV RL 89 RX4 yX4_newBoard wsX4_newBoard) := goodIn_app (goodIn_of _ (by decide +kernel)) ggL_law_X4_newBoard
set_option maxRecDepth 20000 in
theorem ggL_law_X4_thrown : GoodIn wsL_law wsX4_thrown := goodIn_r _ [108, 97, 703, 704, 705, 706, 707, 708, 709, 710, 711, 712, 713, 714, 715, 716, 717, 718, 719, 720, 721, 722, 723, 724, 725, 726, 727] (by decide +kernel) (by decide +kernel)
set_option maxRecDepth 20000 in
theorem gL_law_X4_thrown : GoodIn wsL_law (wsV RL 90 RX4 yX4_thrown wsX4_thrown) := goodIn_app (goodIn_of _ (by decide +kernel)) ggL_law_X4_thrown
set_option maxRecDepth 20000 in
theorem ggL_law_L_turnWall : GoodIn wsL_law wsL_turnWall := goodIn_ca (goodIn_ca (goodIn_r _ [111, 112, 113, 114, 115, 116, 2, 117, 118, 119, 39, 16, 120, 121, 122, 123, 124, 125, 126, 15, 127, 128, 46, 47, 129, 130, 131, 132, 133, 28, 695, 696, 697, 698, 699, 700, 701, 702, 728, 729, 730, 731] (by decide +kernel) (by decide +kernel)) (goodIn_sub (fun _ h => List.mem_append_left _ (List.mem_append_right _ h)) (by decide +kernel))) (goodIn_sub (fun _ h => List.mem_append_right _ h) (by decide +kernel))
set_option maxRecDepth 20000 in
theorem gL_law_L_turnWall : GoodIn wsL_law (va_wsS RL 94 yL_turnWall wsL_turnWall) := goodIn_app (goodIn_of _ (by decide +kernel)) ggL_law_L_turnWall
set_option maxRecDepth 20000 in
theorem ggL_law_X4_turnWall : GoodIn wsL_law wsX4_turnWall := goodIn_r _ [137, 97, 67, 71, 52, 138, 139, 140, 5, 141, 68, 98, 99, 100, 142, 143, 144, 145, 703, 704, 705, 706, 707, 708, 709, 710, 711, 712, 713, 714, 715, 716, 717, 718, 719, 720, 721, 722, 723, 724, 725, 726, 727] (by decide +kernel) (by decide +kernel)
set_option maxRecDepth 20000 in
theorem gL_law_X4_turnWall : GoodIn wsL_law (wsV RL 96 RX4 yX4_turnWall wsX4_turnWall) := goodIn_app (goodIn_of _ (by decide +kernel)) ggL_law_X4_turnWall
set_option maxRecDepth 20000 in
theorem ggL_law_L_setColour : GoodIn wsL_law wsL_setColour := goodIn_ca (goodIn_ca (goodIn_r _ [148, 112, 83, 149, 150, 151, 2, 152, 88, 89, 22, 153, 154, 155, 124, 125, 156, 157, 158, 695, 696, 697, 698, 699, 700, 701, 702] (by decide +kernel) (by decide +kernel)) (goodIn_sub (fun _ h => List.mem_append_left _ (List.mem_append_left _ (List.mem_append_right _ h))) (by decide +kernel))) (goodIn_sub (fun _ h => List.mem_append_right _ h) (by decide +kernel))
set_option maxRecDepth 20000 in
theorem gL_law_L_setColour : GoodIn wsL_law (va_wsS RL 97 yL_setColour wsL_setColour) := goodIn_app (goodIn_of _ (by decide +kernel)) ggL_law_L_setColour
set_option maxRecDepth 20000 in
theorem ggL_law_X4_setColour : GoodIn wsL_law wsX4_setColour := goodIn_r _ [162, 97, 54, 163, 164, 5, 165, 98, 99, 100, 101, 102, 103, 104, 703, 704, 705, 706, 707, 708, 709, 710, 711, 712, 713, 714, 715, 716, 717, 718, 719, 720, 721, 722, 723, 724, 725, 726, 727] (by decide +kernel) (by decide +kernel)
set_option maxRecDepth 20000 in
theorem gL_law_X4_setColour : GoodIn wsL_law (wsV RL 99 RX4 yX4_setColour wsX4_setColour) := goodIn_app (goodIn_of _ (by decide +kernel)) ggL_law_X4_setColour
set_option maxRecDepth 20000 in
theorem ggL_law_L_addPaint : GoodIn wsL_law wsL_addPaint := goodIn_ca (goodIn_ca (goodIn_r _ [168, 112, 83, 169, 170, 171, 2, 172, 88, 89, 23, 173, 174, 175, 176, 153, 154, 155, 124, 125, 156, 157, 158, 695, 696, 697, 698, 699, 700, 701, 702] (by decide +kernel) (by decide +kernel)) (goodIn_sub (fun _ h => List.mem_append_left _ (List.mem_append_left _ (List.mem_append_right _ h))) (by decide +kernel))) (goodIn_sub (fun _ h => List.mem_append_right _ h) (by decide +kernel))
set_option maxRecDepth 20000 in
theorem gL_law_L_addPaint : GoodIn wsL_law (va_wsS RL 100 yL_addPaint wsL_addPaint) := goodIn_app (goodIn_of _ (by decide +kernel)) ggL_law_L_addPaint
set_option maxRecDepth 20000 in
theorem ggL_law_X4_addPaint : GoodIn wsL_law wsX4_addPaint := goodIn_r _ [180, 97, 55, 181, 174, 175, 176, 163, 164, 5, 165, 98, 99, 100, 101, 102, 103, 104, 703, 704, 705, 706, 707, 708, 709, 710, 711, 712, 713, 714, 715, 716, 717, 718, 719, 720, 721, 722, 723, 724, 725, 726, 727] (by decide +kernel) (by decide +kernel)
set_option maxRecDepth 20000 in
theorem gL_law_X4_addPaint : GoodIn wsL_law (wsV RL 102 RX4 yX4_addPaint wsX4_addPaint) := goodIn_app (goodIn_of _ (by decide +kernel)) ggL_law_X4_addPaint
set_option maxRecDepth 20000 in
theorem ggL_law_L_put : GoodIn wsL_law wsL_put := goodIn_ca (goodIn_ca (goodIn_r _ [184, 112, 113, 185, 186, 187, 2, 188, 118, 119, 16, 189, 190, 175, 191, 39, 40, 120, 121, 122, 123, 124, 125, 126, 15, 127, 128, 46, 47, 192, 193, 194, 28, 195, 196, 129, 130, 197, 198, 199, 200, 201, 202, 203, 204, 205, 206, 207, 208, 695, 696, 697, 698, 699, 700, 701, 702, 728, 729, 730, 731] (by decide +kernel) (by decide +kernel)) (goodIn_sub (fun _ h => List.mem_append_left _ (List.mem_append_right _ h)) (by decide +kernel))) (goodIn_sub (fun _ h => List.mem_append_right _ h) (by decide +kernel))
set_option maxRecDepth 20000 in
theorem gL_law_L_put : GoodIn wsL_law (va_wsS RL 103 yL_put wsL_put) := goodIn_app (goodIn_of _ (by decide +kernel)) ggL_law_L_put
