/-! rows of the law, by program -/
set_option maxRecDepth 20000 in
theorem ggL_law_X4_printAt : GoodIn wsL_law wsX4_printAt := goodIn_r _ [404, 97, 53, 67, 138, 139, 140, 5, 141, 68, 98, 99, 100, 101, 102, 103, 104, 703, 704, 705, 706, 707, 708, 709, 710, 711, 712, 713, 714, 715, 716, 717, 718, 719, 720, 721, 722, 723, 724, 725, 726, 727] (by decide +kernel) (by decide +kernel)
set_option maxRecDepth 20000 in
theorem gL_law_X4_printAt : GoodIn wsL_law (wsV RL 148 RX4 yX4_printAt wsX4_printAt) := goodIn_app (goodIn_of _ (by decide +kernel)) ggL_law_X4_printAt
set_option maxRecDepth 20000 in
theorem ggL_law_L_canRoll : GoodIn wsL_law wsL_canRoll := goodIn_ca (goodIn_r _ [407, 112, 408, 409, 410, 2, 411, 16, 39, 221, 222, 223, 124, 125, 228, 15, 229, 230, 231, 201, 202, 232, 207, 208, 233, 192, 193, 194, 28, 195, 126, 127, 128, 46, 47, 196, 129, 130, 695, 696, 697, 698, 699, 700, 701, 702, 728, 729, 730, 731] (by decide +kernel) (by decide +kernel)) (goodIn_sub (fun _ h => List.mem_append_right _ h) (by decide +kernel))
set_option maxRecDepth 20000 in
theorem gL_law_L_canRoll : GoodIn wsL_law (va_wsS RL 149 yL_canRoll wsL_canRoll) := goodIn_app (goodIn_of _ (by decide +kernel)) ggL_law_L_canRoll
set_option maxRecDepth 20000 in
theorem ggL_law_X4_canRoll : GoodIn wsL_law wsX4_canRoll := goodIn_r _ [415, 97, 71, 271, 272, 5, 273, 98, 99, 100, 282, 283, 284, 285, 67, 52, 138, 139, 140, 141, 68, 142, 143, 144, 145, 703, 704, 705, 706, 707, 708, 709, 710, 711, 712, 713, 714, 715, 716, 717, 718, 719, 720, 721, 722, 723, 724, 725, 726, 727] (by decide +kernel) (by decide +kernel)
set_option maxRecDepth 20000 in
theorem gL_law_X4_canRoll : GoodIn wsL_law (wsV RL 151 RX4 yX4_canRoll wsX4_canRoll) := goodIn_app (goodIn_of _ (by decide +kernel)) ggL_law_X4_canRoll
set_option maxRecDepth 20000 in
theorem ggL_law_X3_width : GoodIn wsL_law wsX3_width := goodIn_r _ [419, 16, 695, 696, 697, 698, 699, 700, 701, 702, 728, 729, 730, 731] (by decide +kernel) (by decide +kernel)
set_option maxRecDepth 20000 in
theorem gL_law_X3_width : GoodIn wsL_law (wsV RL 152 RX3 yX3_width wsX3_width) := goodIn_app (goodIn_of _ (by decide +kernel)) ggL_law_X3_width
set_option maxRecDepth 20000 in
theorem ggL_law_X4_width : GoodIn wsL_law wsX4_width := goodIn_r _ [423, 67, 314, 315, 316, 5, 317, 97, 703, 704, 705, 706, 707, 708, 709, 710, 711, 712, 713, 714, 715, 716, 717, 718, 719, 720, 721, 722, 723, 724, 725, 726, 727] (by decide +kernel) (by decide +kernel)
set_option maxRecDepth 20000 in
theorem gL_law_X4_width : GoodIn wsL_law (wsV RL 155 RX4 yX4_width wsX4_width) := goodIn_app (goodIn_of _ (by decide +kernel)) ggL_law_X4_width
set_option maxRecDepth 20000 in
theorem ggL_law_X3_height : GoodIn wsL_law wsX3_height := goodIn_r _ [427, 16, 695, 696, 697, 698, 699, 700, 701, 702, 728, 729, 730, 731] (by decide +kernel) (by decide +kernel)
set_option maxRecDepth 20000 in
theorem gL_law_X3_height : GoodIn wsL_law (wsV RL 156 RX3 yX3_height wsX3_height) := goodIn_app (goodIn_of _ (by decide +kernel)) ggL_law_X3_height
set_option maxRecDepth 20000 in
theorem ggL_law_X4_height : GoodIn wsL_law wsX4_height := goodIn_r _ [431, 68, 314, 315, 316, 5, 317, 97, 703, 704, 705, 706, 707, 708, 709, 710, 711, 712, 713, 714, 715, 716, 717, 718, 719, 720, 721, 722, 723, 724, 725, 726, 727] (by decide +kernel) (by decide +kernel)
set_option maxRecDepth 20000 in
theorem gL_law_X4_height : GoodIn wsL_law (wsV RL 159 RX4 yX4_height wsX4_height) := goodIn_app (goodIn_of _ (by decide +kernel)) ggL_law_X4_height
set_option maxRecDepth 20000 in
theorem ggL_law_X3_walls : GoodIn wsL_law wsX3_walls := goodIn_r _ [435, 16, 436, 15, 437, 438, 28, 695, 696, 697, 698, 699, 700, 701, 702, 728, 729, 730, 731] (by decide +kernel) (by decide +kernel)
set_option maxRecDepth 20000 in
theorem gL_law_X3_walls : GoodIn wsL_law (wsV RL 160 RX3 yX3_walls wsX3_walls) := goodIn_app (goodIn_of _ (by decide +kernel)) ggL_law_X3_walls
set_option maxRecDepth 20000 in
theorem ggL_law_X4_walls : GoodIn wsL_law wsX4_walls := goodIn_r _ [442, 443, 444, 445, 5, 446, 67, 68, 52, 314, 315, 316, 317, 97, 703, 704, 705, 706, 707, 708, 709, 710, 711, 712, 713, 714, 715, 716, 717, 718, 719, 720, 721, 722, 723, 724, 725, 726, 727] (by decide +kernel) (by decide +kernel)
set_option maxRecDepth 20000 in
theorem gL_law_X4_walls : GoodIn wsL_law (wsV RL 163 RX4 yX4_walls wsX4_walls) := goodIn_app (goodIn_of _ (by decide +kernel)) ggL_law_X4_walls
set_option maxRecDepth 20000 in
theorem ggL_law_X3_rolls : GoodIn wsL_law wsX3_rolls := goodIn_r _ [450, 41, 695, 696, 697, 698, 699, 700, 701, 702] (by decide +kernel) (by decide +kernel)
set_option maxRecDepth 20000 in
theorem gL_law_X3_rolls : GoodIn wsL_law (wsV RL 164 RX3 yX3_rolls wsX3_rolls) := goodIn_app (goodIn_of _ (by decide +kernel)) ggL_law_X3_rolls
set_option maxRecDepth 20000 in
theorem ggL_law_X4_rolls : GoodIn wsL_law wsX4_rolls := goodIn_r _ [454, 69, 314, 315, 316, 5, 317, 97, 703, 704, 705, 706, 707, 708, 709, 710, 711, 712, 713, 714, 715, 716, 717, 718, 719, 720, 721, 722, 723, 724, 725, 726, 727] (by decide +kernel) (by decide +kernel)
set_option maxRecDepth 20000 in
theorem gL_law_X4_rolls : GoodIn wsL_law (wsV RL 167 RX4 yX4_rolls wsX4_rolls) := goodIn_app (goodIn_of _ (by decide +kernel)) ggL_law_X4_rolls
set_option maxRecDepth 20000 in
theorem ggL_law_X3_prints : GoodIn wsL_law wsX3_prints := goodIn_r _ [458, 42, 695, 696, 697, 698, 699, 700, 701, 702] (by decide +kernel) (by decide +kernel)
set_option maxRecDepth 20000 in
theorem gL_law_X3_prints : GoodIn wsL_law (wsV RL 168 RX3 yX3_prints wsX3_prints) := goodIn_app (goodIn_of _ (by decide +kernel)) ggL_law_X3_prints
