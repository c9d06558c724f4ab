/-! rows of the law, by program -/
set_option maxRecDepth 20000 in
theorem ggL_law_X3_faceTo : GoodIn wsL_law wsX3_faceTo := goodIn_ca (goodIn_r _ [337, 42, 196, 197, 2, 198, 112, 113, 278, 210, 279, 215, 216, 217, 221, 222, 223, 212, 213, 214, 224, 225, 226, 437, 438, 439, 440, 441, 442, 443, 444] (by decide +kernel) (by decide +kernel)) (goodIn_sub (fun _ h => List.mem_append_right _ h) (by decide +kernel))
set_option maxRecDepth 20000 in
theorem gL_law_X3_faceTo : GoodIn wsL_law (wsV RL 128 RX3 yX3_faceTo wsX3_faceTo) := goodIn_app (goodIn_of _ (by decide +kernel)) ggL_law_X3_faceTo
set_option maxRecDepth 20000 in
theorem ggL_law_X3_cellsWith : GoodIn wsL_law wsX3_cellsWith := goodIn_ca (goodIn_r _ [341, 112, 113, 18, 342, 17, 343, 344, 49, 48, 345, 307, 308, 309, 31, 157, 114, 115, 116, 158, 117, 118, 437, 438, 439, 440, 441, 442, 443, 444, 445, 446, 447, 448] (by decide +kernel) (by decide +kernel)) (goodIn_sub (fun _ h => List.mem_append_right _ h) (by decide +kernel))
set_option maxRecDepth 20000 in
theorem gL_law_X3_cellsWith : GoodIn wsL_law (wsV RL 131 RX3 yX3_cellsWith wsX3_cellsWith) := goodIn_app (goodIn_of _ (by decide +kernel)) ggL_law_X3_cellsWith
set_option maxRecDepth 20000 in
theorem ggL_law_X3_walls : GoodIn wsL_law wsX3_walls := goodIn_r _ [266, 18, 267, 17, 268, 269, 30, 437, 438, 439, 440, 441, 442, 443, 444, 445, 446, 447, 448] (by decide +kernel) (by decide +kernel)
set_option maxRecDepth 20000 in
theorem gL_law_X3_walls : GoodIn wsL_law (wsV RL 134 RX3 yX3_walls wsX3_walls) := goodIn_app (goodIn_of _ (by decide +kernel)) ggL_law_X3_walls
set_option maxRecDepth 20000 in
theorem ggL_law_X3_prints : GoodIn wsL_law wsX3_prints := goodIn_r _ [277, 44, 437, 438, 439, 440, 441, 442, 443, 444] (by decide +kernel) (by decide +kernel)
set_option maxRecDepth 20000 in
theorem gL_law_X3_prints : GoodIn wsL_law (wsV RL 137 RX3 yX3_prints wsX3_prints) := goodIn_app (goodIn_of _ (by decide +kernel)) ggL_law_X3_prints
set_option maxRecDepth 20000 in
theorem ggL_law_X3_rolls : GoodIn wsL_law wsX3_rolls := goodIn_r _ [273, 43, 437, 438, 439, 440, 441, 442, 443, 444] (by decide +kernel) (by decide +kernel)
set_option maxRecDepth 20000 in
theorem gL_law_X3_rolls : GoodIn wsL_law (wsV RL 140 RX3 yX3_rolls wsX3_rolls) := goodIn_app (goodIn_of _ (by decide +kernel)) ggL_law_X3_rolls
set_option maxRecDepth 20000 in
theorem ggL_law_X3_fewestRolls : GoodIn wsL_law wsX3_fewestRolls := goodIn_ca (goodIn_r _ [352, 22, 108, 109, 110, 2, 111, 112, 113, 18, 114, 17, 115, 116, 48, 49, 284, 285, 286, 287, 41, 42, 288, 21, 289, 290, 35, 291, 292, 293, 294, 295, 296, 297, 298, 36, 299, 300, 301, 302, 303, 304, 305, 203, 204, 205, 206, 163, 164, 207, 169, 170, 208, 154, 155, 156, 30, 157, 158, 117, 118, 209, 210, 211, 212, 213, 214, 215, 216, 217, 218, 219, 220, 221, 222, 223, 224, 225, 226, 306, 310, 311, 312, 313, 314, 315, 316, 317, 318, 319, 320, 127, 5, 128, 437, 438, 439, 440, 441, 442, 443, 444, 445, 446, 447, 448, 449, 450, 451] (by decide +kernel) (by decide +kernel)) (goodIn_sub (fun _ h => List.mem_append_right _ h) (by decide +kernel))
set_option maxRecDepth 20000 in
theorem gL_law_X3_fewestRolls : GoodIn wsL_law (wsV RL 143 RX3 yX3_fewestRolls wsX3_fewestRolls) := goodIn_app (goodIn_of _ (by decide +kernel)) ggL_law_X3_fewestRolls
set_option maxRecDepth 20000 in
theorem ggL_law_X3_cellsBehind : GoodIn wsL_law wsX3_cellsBehind := goodIn_ca (goodIn_r _ [356, 97, 98, 22, 357, 358, 359, 2, 360, 18, 41, 203, 17, 204, 205, 206, 163, 164, 207, 169, 170, 208, 154, 155, 156, 30, 157, 114, 115, 116, 48, 49, 158, 117, 118, 284, 285, 286, 287, 42, 288, 21, 289, 290, 35, 291, 292, 293, 294, 295, 296, 297, 298, 36, 299, 300, 301, 302, 303, 304, 305, 209, 210, 211, 212, 213, 214, 215, 216, 217, 218, 219, 220, 221, 222, 223, 224, 225, 226, 306, 310, 311, 312, 313, 314, 315, 316, 317, 318, 319, 320, 127, 5, 128, 437, 438, 439, 440, 441, 442, 443, 444, 445, 446, 447, 448, 449, 450, 451] (by decide +kernel) (by decide +kernel)) (goodIn_sub (fun _ h => List.mem_append_left _ (List.mem_append_left _ (List.mem_append_right _ h))) (by decide +kernel))
set_option maxRecDepth 20000 in
theorem gL_law_X3_cellsBehind : GoodIn wsL_law (wsV RL 146 RX3 yX3_cellsBehind wsX3_cellsBehind) := goodIn_app (goodIn_of _ (by decide +kernel)) ggL_law_X3_cellsBehind
set_option maxRecDepth 20000 in
theorem ggL_law_X3_waysToLie : GoodIn wsL_law wsX3_waysToLie := goodIn_r _ [364, 22, 284, 285, 286, 2, 287, 41, 42, 18, 288, 21, 289, 290, 35, 291, 292, 293, 294, 295, 296, 297, 298, 36, 299, 300, 301, 302, 303, 304, 305, 203, 17, 204, 205, 206, 163, 164, 207, 169, 170, 208, 154, 155, 156, 30, 157, 114, 115, 116, 48, 49, 158, 117, 118, 209, 210, 211, 212, 213, 214, 215, 216, 217, 218, 219, 220, 221, 222, 223, 224, 225, 226, 306, 437, 438, 439, 440, 441, 442, 443, 444, 449, 450, 451, 445, 446, 447, 448] (by decide +kernel) (by decide +kernel)
set_option maxRecDepth 20000 in
theorem gL_law_X3_waysToLie : GoodIn wsL_law (wsV RL 149 RX3 yX3_waysToLie wsX3_waysToLie) := goodIn_app (goodIn_of _ (by decide +kernel)) ggL_law_X3_waysToLie
set_option maxRecDepth 20000 in
theorem ggL_law_X3_topsAt : GoodIn wsL_law wsX3_topsAt := goodIn_ca (goodIn_r _ [368, 22, 108, 109, 110, 2, 111, 112, 113, 18, 114, 17, 115, 116, 48, 49, 284, 285, 286, 287, 41, 42, 288, 21, 289, 290, 35, 291, 292, 293, 294, 295, 296, 297, 298, 36, 299, 300, 301, 302, 303, 304, 305, 203, 204, 205, 206, 163, 164, 207, 169, 170, 208, 154, 155, 156, 30, 157, 158, 117, 118, 209, 210, 211, 212, 213, 214, 215, 216, 217, 218, 219, 220, 221, 222, 223, 224, 225, 226, 306, 321, 322, 323, 313, 314, 315, 316, 317, 318, 319, 320, 127, 5, 128, 437, 438, 439, 440, 441, 442, 443, 444, 445, 446, 447, 448, 449, 450, 451] (by decide +kernel) (by decide +kernel)) (goodIn_sub (fun _ h => List.mem_append_right _ h) (by decide +kernel))
set_option maxRecDepth 20000 in
theorem gL_law_X3_topsAt : GoodIn wsL_law (wsV RL 152 RX3 yX3_topsAt wsX3_topsAt) := goodIn_app (goodIn_of _ (by decide +kernel)) ggL_law_X3_topsAt
set_option maxRecDepth 20000 in
theorem ggL_law_X3_cellsWithinReach : GoodIn wsL_law wsX3_cellsWithinReach := goodIn_r _ [372, 22, 284, 285, 286, 2, 287, 41, 42, 18, 288, 21, 289, 290, 35, 291, 292, 293, 294, 295, 296, 297, 298, 36, 299, 300, 301, 302, 303, 304, 305, 203, 17, 204, 205, 206, 163, 164, 207, 169, 170, 208, 154, 155, 156, 30, 157, 114, 115, 116, 48, 49, 158, 117, 118, 209, 210, 211, 212, 213, 214, 215, 216, 217, 218, 219, 220, 221, 222, 223, 224, 225, 226, 306, 310, 311, 312, 313, 314, 315, 316, 317, 318, 319, 320, 127, 5, 128, 437, 438, 439, 440, 441, 442, 443, 444, 449, 450, 451, 445, 446, 447, 448] (by decide +kernel) (by decide +kernel)
set_option maxRecDepth 20000 in
theorem gL_law_X3_cellsWithinReach : GoodIn wsL_law (wsV RL 155 RX3 yX3_cellsWithinReach wsX3_cellsWithinReach) := goodIn_app (goodIn_of _ (by decide +kernel)) ggL_law_X3_cellsWithinReach
set_option maxRecDepth 20000 in
theorem ggL_law_X3_canRoll : GoodIn wsL_law wsX3_canRoll := goodIn_ca (goodIn_r _ [376, 18, 41, 196, 197, 2, 198, 112, 113, 203, 17, 204, 205, 206, 163, 164, 207, 169, 170, 208, 154, 155, 156, 30, 157, 114, 115, 116, 48, 49, 158, 117, 118, 437, 438, 439, 440, 441, 442, 443, 444, 445, 446, 447, 448] (by decide +kernel) (by decide +kernel)) (goodIn_sub (fun _ h => List.mem_append_right _ h) (by decide +kernel))
set_option maxRecDepth 20000 in
theorem gL_law_X3_canRoll : GoodIn wsL_law (wsV RL 158 RX3 yX3_canRoll wsX3_canRoll) := goodIn_app (goodIn_of _ (by decide +kernel)) ggL_law_X3_canRoll
set_option maxRecDepth 20000 in
theorem ggL_law_L_below : GoodIn wsL_law wsL_below := goodIn_r _ [79, 80] (by decide +kernel) (by decide +kernel)
set_option maxRecDepth 20000 in
theorem gL_law_L_below : GoodIn wsL_law (va_wsS RL 15 yL_below wsL_below) := goodIn_app (goodIn_of _ (by decide +kernel)) ggL_law_L_below
