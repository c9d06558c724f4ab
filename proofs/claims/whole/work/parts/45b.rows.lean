/-! rows of the law, by program -/
set_option maxRecDepth 20000 in
theorem ggL_law_X4_put : GoodIn wsL_law wsX4_put := goodIn_r _ [212, 97, 52, 67, 71, 213, 190, 175, 191, 138, 139, 140, 5, 141, 68, 98, 99, 100, 101, 102, 103, 104, 72, 73, 74, 75, 76, 77, 78, 703, 704, 705, 706, 707, 708, 709, 710, 711, 712, 713, 714, 715, 716, 717, 718, 719, 720, 721, 722, 723, 724, 725, 726, 727] (by decide +kernel) (by decide +kernel)
set_option maxRecDepth 20000 in
theorem gL_law_X4_put : GoodIn wsL_law (wsV RL 105 RX4 yX4_put wsX4_put) := goodIn_app (goodIn_of _ (by decide +kernel)) ggL_law_X4_put
set_option maxRecDepth 20000 in
theorem ggL_law_L_roll : GoodIn wsL_law wsL_roll := goodIn_ca (goodIn_ca (goodIn_r _ [216, 112, 113, 217, 218, 219, 2, 220, 118, 119, 221, 222, 223, 124, 125, 224, 225, 226, 227, 16, 39, 40, 41, 228, 15, 229, 230, 231, 201, 202, 232, 207, 208, 233, 192, 193, 194, 28, 195, 126, 127, 128, 46, 47, 196, 129, 130, 234, 235, 236, 237, 238, 239, 240, 241, 242, 243, 244, 245, 246, 247, 248, 249, 250, 251, 252, 253, 254, 255, 23, 22, 42, 256, 257, 258, 259, 260, 261, 262, 263, 156, 157, 158, 264, 265, 266, 29, 695, 696, 697, 698, 699, 700, 701, 702, 728, 729, 730, 731] (by decide +kernel) (by decide +kernel)) (goodIn_sub (fun _ h => List.mem_append_left _ (List.mem_append_right _ h)) (by decide +kernel))) (goodIn_sub (fun _ h => List.mem_append_right _ h) (by decide +kernel))
set_option maxRecDepth 20000 in
theorem gL_law_L_roll : GoodIn wsL_law (va_wsS RL 106 yL_roll wsL_roll) := goodIn_app (goodIn_of _ (by decide +kernel)) ggL_law_L_roll
set_option maxRecDepth 20000 in
theorem ggL_law_X4_roll : GoodIn wsL_law wsX4_roll := goodIn_r _ [270, 97, 76, 271, 272, 5, 273, 98, 99, 100, 101, 102, 103, 104, 274, 275, 276, 277, 71, 278, 279, 280, 77, 281, 78, 69, 55, 53, 54, 70, 282, 283, 284, 285, 67, 52, 138, 139, 140, 141, 68, 286, 287, 288, 289, 290, 291, 292, 293, 703, 704, 705, 706, 707, 708, 709, 710, 711, 712, 713, 714, 715, 716, 717, 718, 719, 720, 721, 722, 723, 724, 725, 726, 727] (by decide +kernel) (by decide +kernel)
set_option maxRecDepth 20000 in
theorem gL_law_X4_roll : GoodIn wsL_law (wsV RL 109 RX4 yX4_roll wsX4_roll) := goodIn_app (goodIn_of _ (by decide +kernel)) ggL_law_X4_roll
set_option maxRecDepth 20000 in
theorem ggL_law_L_rollOn : GoodIn wsL_law wsL_rollOn := goodIn_ca (goodIn_ca (goodIn_r _ [296, 112, 83, 297, 298, 299, 2, 300, 88, 89, 221, 222, 223, 124, 125, 224, 225, 226, 227, 16, 39, 40, 41, 228, 15, 229, 230, 231, 201, 202, 232, 207, 208, 233, 192, 193, 194, 28, 195, 126, 127, 128, 46, 47, 196, 129, 130, 234, 235, 236, 237, 238, 239, 240, 241, 242, 243, 244, 245, 246, 247, 248, 249, 250, 251, 252, 253, 254, 255, 23, 22, 42, 256, 257, 258, 259, 260, 261, 262, 263, 156, 157, 158, 264, 265, 266, 29, 695, 696, 697, 698, 699, 700, 701, 702, 728, 729, 730, 731] (by decide +kernel) (by decide +kernel)) (goodIn_sub (fun _ h => List.mem_append_left _ (List.mem_append_left _ (List.mem_append_right _ h))) (by decide +kernel))) (goodIn_sub (fun _ h => List.mem_append_right _ h) (by decide +kernel))
set_option maxRecDepth 20000 in
theorem gL_law_L_rollOn : GoodIn wsL_law (va_wsS RL 110 yL_rollOn wsL_rollOn) := goodIn_app (goodIn_of _ (by decide +kernel)) ggL_law_L_rollOn
set_option maxRecDepth 20000 in
theorem ggL_law_X4_rollOn : GoodIn wsL_law wsX4_rollOn := goodIn_r _ [304, 97, 271, 272, 5, 273, 98, 99, 100, 101, 102, 103, 104, 305, 306, 307, 308, 274, 275, 276, 277, 71, 278, 279, 76, 280, 77, 281, 78, 69, 55, 53, 54, 70, 282, 283, 284, 285, 67, 52, 138, 139, 140, 141, 68, 286, 287, 288, 289, 290, 291, 292, 293, 703, 704, 705, 706, 707, 708, 709, 710, 711, 712, 713, 714, 715, 716, 717, 718, 719, 720, 721, 722, 723, 724, 725, 726, 727] (by decide +kernel) (by decide +kernel)
set_option maxRecDepth 20000 in
theorem gL_law_X4_rollOn : GoodIn wsL_law (wsV RL 112 RX4 yX4_rollOn wsX4_rollOn) := goodIn_app (goodIn_of _ (by decide +kernel)) ggL_law_X4_rollOn
set_option maxRecDepth 20000 in
theorem ggL_law_X3_column : GoodIn wsL_law wsX3_column := goodIn_r _ [200, 39, 201, 15, 202, 695, 696, 697, 698, 699, 700, 701, 702] (by decide +kernel) (by decide +kernel)
set_option maxRecDepth 20000 in
theorem gL_law_X3_column : GoodIn wsL_law (wsV RL 113 RX3 yX3_column wsX3_column) := goodIn_app (goodIn_of _ (by decide +kernel)) ggL_law_X3_column
set_option maxRecDepth 20000 in
theorem ggL_law_X4_column : GoodIn wsL_law wsX4_column := goodIn_r _ [313, 71, 67, 314, 315, 316, 5, 317, 97, 703, 704, 705, 706, 707, 708, 709, 710, 711, 712, 713, 714, 715, 716, 717, 718, 719, 720, 721, 722, 723, 724, 725, 726, 727] (by decide +kernel) (by decide +kernel)
set_option maxRecDepth 20000 in
theorem gL_law_X4_column : GoodIn wsL_law (wsV RL 116 RX4 yX4_column wsX4_column) := goodIn_app (goodIn_of _ (by decide +kernel)) ggL_law_X4_column
set_option maxRecDepth 20000 in
theorem ggL_law_X3_row : GoodIn wsL_law wsX3_row := goodIn_r _ [206, 39, 207, 15, 208, 695, 696, 697, 698, 699, 700, 701, 702] (by decide +kernel) (by decide +kernel)
set_option maxRecDepth 20000 in
theorem gL_law_X3_row : GoodIn wsL_law (wsV RL 117 RX3 yX3_row wsX3_row) := goodIn_app (goodIn_of _ (by decide +kernel)) ggL_law_X3_row
set_option maxRecDepth 20000 in
theorem ggL_law_X4_row : GoodIn wsL_law wsX4_row := goodIn_r _ [322, 71, 67, 314, 315, 316, 5, 317, 97, 703, 704, 705, 706, 707, 708, 709, 710, 711, 712, 713, 714, 715, 716, 717, 718, 719, 720, 721, 722, 723, 724, 725, 726, 727] (by decide +kernel) (by decide +kernel)
set_option maxRecDepth 20000 in
theorem gL_law_X4_row : GoodIn wsL_law (wsV RL 120 RX4 yX4_row wsX4_row) := goodIn_app (goodIn_of _ (by decide +kernel)) ggL_law_X4_row
set_option maxRecDepth 20000 in
theorem ggL_law_X3_top : GoodIn wsL_law wsX3_top := goodIn_r _ [263, 40, 238, 235, 239, 695, 696, 697, 698, 699, 700, 701, 702] (by decide +kernel) (by decide +kernel)
set_option maxRecDepth 20000 in
theorem gL_law_X3_top : GoodIn wsL_law (wsV RL 121 RX3 yX3_top wsX3_top) := goodIn_app (goodIn_of _ (by decide +kernel)) ggL_law_X3_top
set_option maxRecDepth 20000 in
theorem ggL_law_X4_top : GoodIn wsL_law wsX4_top := goodIn_r _ [327, 76, 314, 315, 316, 5, 317, 97, 703, 704, 705, 706, 707, 708, 709, 710, 711, 712, 713, 714, 715, 716, 717, 718, 719, 720, 721, 722, 723, 724, 725, 726, 727] (by decide +kernel) (by decide +kernel)
set_option maxRecDepth 20000 in
theorem gL_law_X4_top : GoodIn wsL_law (wsV RL 124 RX4 yX4_top wsX4_top) := goodIn_app (goodIn_of _ (by decide +kernel)) ggL_law_X4_top
set_option maxRecDepth 20000 in
theorem ggL_law_X3_bottom : GoodIn wsL_law wsX3_bottom := goodIn_r _ [259, 260, 261, 262, 2, 263, 40, 238, 235, 239, 695, 696, 697, 698, 699, 700, 701, 702] (by decide +kernel) (by decide +kernel)
set_option maxRecDepth 20000 in
theorem gL_law_X3_bottom : GoodIn wsL_law (wsV RL 125 RX3 yX3_bottom wsX3_bottom) := goodIn_app (goodIn_of _ (by decide +kernel)) ggL_law_X3_bottom
