/-! rows of the law, by program -/
set_option maxRecDepth 20000 in
theorem ggL_law_X4_bottom : GoodIn wsL_law wsX4_bottom := goodIn_r _ [332, 76, 314, 315, 316, 5, 317, 97, 703, 704, 705, 706, 707, 708, 709, 710, 711, 712, 713, 714, 715, 716, 717, 718, 719, 720, 721, 722, 723, 724, 725, 726, 727] (by decide +kernel) (by decide +kernel)
set_option maxRecDepth 20000 in
theorem gL_law_X4_bottom : GoodIn wsL_law (wsV RL 128 RX4 yX4_bottom wsX4_bottom) := goodIn_app (goodIn_of _ (by decide +kernel)) ggL_law_X4_bottom
set_option maxRecDepth 20000 in
theorem ggL_law_L_faceTo : GoodIn wsL_law wsL_faceTo := goodIn_ca (goodIn_r _ [335, 112, 336, 337, 338, 2, 339, 40, 221, 222, 223, 124, 125, 340, 235, 341, 240, 241, 242, 246, 247, 248, 237, 238, 239, 249, 250, 251, 695, 696, 697, 698, 699, 700, 701, 702] (by decide +kernel) (by decide +kernel)) (goodIn_sub (fun _ h => List.mem_append_right _ h) (by decide +kernel))
set_option maxRecDepth 20000 in
theorem gL_law_L_faceTo : GoodIn wsL_law (va_wsS RL 129 yL_faceTo wsL_faceTo) := goodIn_app (goodIn_of _ (by decide +kernel)) ggL_law_L_faceTo
set_option maxRecDepth 20000 in
theorem ggL_law_X4_faceTo : GoodIn wsL_law wsX4_faceTo := goodIn_r _ [345, 97, 271, 272, 5, 273, 98, 99, 100, 346, 347, 348, 349, 77, 78, 101, 102, 103, 104, 703, 704, 705, 706, 707, 708, 709, 710, 711, 712, 713, 714, 715, 716, 717, 718, 719, 720, 721, 722, 723, 724, 725, 726, 727] (by decide +kernel) (by decide +kernel)
set_option maxRecDepth 20000 in
theorem gL_law_X4_faceTo : GoodIn wsL_law (wsV RL 131 RX4 yX4_faceTo wsX4_faceTo) := goodIn_app (goodIn_of _ (by decide +kernel)) ggL_law_X4_faceTo
set_option maxRecDepth 20000 in
theorem ggL_law_X3_isAsAtFirst : GoodIn wsL_law wsX3_isAsAtFirst := goodIn_r _ [353, 40, 695, 696, 697, 698, 699, 700, 701, 702] (by decide +kernel) (by decide +kernel)
set_option maxRecDepth 20000 in
theorem gL_law_X3_isAsAtFirst : GoodIn wsL_law (wsV RL 132 RX3 yX3_isAsAtFirst wsX3_isAsAtFirst) := goodIn_app (goodIn_of _ (by decide +kernel)) ggL_law_X3_isAsAtFirst
set_option maxRecDepth 20000 in
theorem ggL_law_X4_isAsAtFirst : GoodIn wsL_law wsX4_isAsAtFirst := goodIn_r _ [357, 97, 76, 77, 703, 704, 705, 706, 707, 708, 709, 710, 711, 712, 713, 714, 715, 716, 717, 718, 719, 720, 721, 722, 723, 724, 725, 726, 727] (by decide +kernel) (by decide +kernel)
set_option maxRecDepth 20000 in
theorem gL_law_X4_isAsAtFirst : GoodIn wsL_law (wsV RL 136 RX4 yX4_isAsAtFirst wsX4_isAsAtFirst) := goodIn_app (goodIn_of _ (by decide +kernel)) ggL_law_X4_isAsAtFirst
set_option maxRecDepth 20000 in
theorem ggL_law_L_colourOf : GoodIn wsL_law wsL_colourOf := goodIn_ca (goodIn_r _ [360, 112, 361, 362, 363, 2, 364, 22, 153, 154, 155, 124, 125, 156, 157, 158, 695, 696, 697, 698, 699, 700, 701, 702] (by decide +kernel) (by decide +kernel)) (goodIn_sub (fun _ h => List.mem_append_right _ h) (by decide +kernel))
set_option maxRecDepth 20000 in
theorem gL_law_L_colourOf : GoodIn wsL_law (va_wsS RL 137 yL_colourOf wsL_colourOf) := goodIn_app (goodIn_of _ (by decide +kernel)) ggL_law_L_colourOf
set_option maxRecDepth 20000 in
theorem ggL_law_X4_colourOf : GoodIn wsL_law wsX4_colourOf := goodIn_r _ [368, 97, 54, 163, 164, 5, 165, 98, 99, 100, 101, 102, 103, 104, 703, 704, 705, 706, 707, 708, 709, 710, 711, 712, 713, 714, 715, 716, 717, 718, 719, 720, 721, 722, 723, 724, 725, 726, 727] (by decide +kernel) (by decide +kernel)
set_option maxRecDepth 20000 in
theorem gL_law_X4_colourOf : GoodIn wsL_law (wsV RL 139 RX4 yX4_colourOf wsX4_colourOf) := goodIn_app (goodIn_of _ (by decide +kernel)) ggL_law_X4_colourOf
set_option maxRecDepth 20000 in
theorem ggL_law_L_paintOf : GoodIn wsL_law wsL_paintOf := goodIn_ca (goodIn_r _ [371, 112, 372, 373, 374, 2, 375, 23, 153, 154, 155, 124, 125, 156, 157, 158, 695, 696, 697, 698, 699, 700, 701, 702] (by decide +kernel) (by decide +kernel)) (goodIn_sub (fun _ h => List.mem_append_right _ h) (by decide +kernel))
set_option maxRecDepth 20000 in
theorem gL_law_L_paintOf : GoodIn wsL_law (va_wsS RL 140 yL_paintOf wsL_paintOf) := goodIn_app (goodIn_of _ (by decide +kernel)) ggL_law_L_paintOf
set_option maxRecDepth 20000 in
theorem ggL_law_X4_paintOf : GoodIn wsL_law wsX4_paintOf := goodIn_r _ [379, 97, 55, 163, 164, 5, 165, 98, 99, 100, 101, 102, 103, 104, 703, 704, 705, 706, 707, 708, 709, 710, 711, 712, 713, 714, 715, 716, 717, 718, 719, 720, 721, 722, 723, 724, 725, 726, 727] (by decide +kernel) (by decide +kernel)
set_option maxRecDepth 20000 in
theorem gL_law_X4_paintOf : GoodIn wsL_law (wsV RL 142 RX4 yX4_paintOf wsX4_paintOf) := goodIn_app (goodIn_of _ (by decide +kernel)) ggL_law_X4_paintOf
set_option maxRecDepth 20000 in
theorem ggL_law_L_isWall : GoodIn wsL_law wsL_isWall := goodIn_ca (goodIn_r _ [382, 112, 383, 384, 385, 2, 386, 16, 120, 121, 122, 123, 124, 125, 126, 15, 127, 128, 46, 47, 192, 193, 194, 28, 195, 196, 129, 130, 695, 696, 697, 698, 699, 700, 701, 702, 728, 729, 730, 731] (by decide +kernel) (by decide +kernel)) (goodIn_sub (fun _ h => List.mem_append_right _ h) (by decide +kernel))
set_option maxRecDepth 20000 in
theorem gL_law_L_isWall : GoodIn wsL_law (va_wsS RL 143 yL_isWall wsL_isWall) := goodIn_app (goodIn_of _ (by decide +kernel)) ggL_law_L_isWall
set_option maxRecDepth 20000 in
theorem ggL_law_X4_isWall : GoodIn wsL_law wsX4_isWall := goodIn_r _ [390, 97, 52, 67, 138, 139, 140, 5, 141, 68, 98, 99, 100, 142, 143, 144, 145, 703, 704, 705, 706, 707, 708, 709, 710, 711, 712, 713, 714, 715, 716, 717, 718, 719, 720, 721, 722, 723, 724, 725, 726, 727] (by decide +kernel) (by decide +kernel)
set_option maxRecDepth 20000 in
theorem gL_law_X4_isWall : GoodIn wsL_law (wsV RL 145 RX4 yX4_isWall wsX4_isWall) := goodIn_app (goodIn_of _ (by decide +kernel)) ggL_law_X4_isWall
set_option maxRecDepth 20000 in
theorem ggL_law_L_printAt : GoodIn wsL_law wsL_printAt := goodIn_ca (goodIn_r _ [393, 112, 394, 395, 396, 2, 397, 16, 120, 121, 122, 123, 124, 125, 126, 15, 127, 128, 46, 47, 398, 399, 400, 29, 195, 196, 129, 130, 695, 696, 697, 698, 699, 700, 701, 702, 728, 729, 730, 731] (by decide +kernel) (by decide +kernel)) (goodIn_sub (fun _ h => List.mem_append_right _ h) (by decide +kernel))
set_option maxRecDepth 20000 in
theorem gL_law_L_printAt : GoodIn wsL_law (va_wsS RL 146 yL_printAt wsL_printAt) := goodIn_app (goodIn_of _ (by decide +kernel)) ggL_law_L_printAt
