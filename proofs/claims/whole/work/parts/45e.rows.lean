/-! rows of the law, by program -/
set_option maxRecDepth 20000 in
theorem ggL_law_X4_prints : GoodIn wsL_law wsX4_prints := goodIn_r _ [462, 70, 314, 315, 316, 5, 317, 97, 703, 704, 705, 706, 707, 708, 709, 710, 711, 712, 713, 714, 715, 716, 717, 718, 719, 720, 721, 722, 723, 724, 725, 726, 727] (by decide +kernel) (by decide +kernel)
set_option maxRecDepth 20000 in
theorem gL_law_X4_prints : GoodIn wsL_law (wsV RL 171 RX4 yX4_prints wsX4_prints) := goodIn_app (goodIn_of _ (by decide +kernel)) ggL_law_X4_prints
set_option maxRecDepth 20000 in
theorem ggL_law_L_cellsWith : GoodIn wsL_law wsL_cellsWith := goodIn_ca (goodIn_r _ [465, 112, 466, 467, 468, 2, 469, 124, 125, 16, 470, 15, 471, 472, 47, 46, 473, 398, 399, 400, 29, 195, 126, 127, 128, 196, 129, 130, 695, 696, 697, 698, 699, 700, 701, 702, 728, 729, 730, 731] (by decide +kernel) (by decide +kernel)) (goodIn_sub (fun _ h => List.mem_append_right _ h) (by decide +kernel))
set_option maxRecDepth 20000 in
theorem gL_law_L_cellsWith : GoodIn wsL_law (va_wsS RL 172 yL_cellsWith wsL_cellsWith) := goodIn_app (goodIn_of _ (by decide +kernel)) ggL_law_L_cellsWith
set_option maxRecDepth 20000 in
theorem ggL_law_X4_cellsWith : GoodIn wsL_law wsX4_cellsWith := goodIn_r _ [477, 97, 67, 68, 53, 98, 99, 5, 100, 101, 102, 103, 104, 703, 704, 705, 706, 707, 708, 709, 710, 711, 712, 713, 714, 715, 716, 717, 718, 719, 720, 721, 722, 723, 724, 725, 726, 727] (by decide +kernel) (by decide +kernel)
set_option maxRecDepth 20000 in
theorem gL_law_X4_cellsWith : GoodIn wsL_law (wsV RL 174 RX4 yX4_cellsWith wsX4_cellsWith) := goodIn_app (goodIn_of _ (by decide +kernel)) ggL_law_X4_cellsWith
set_option maxRecDepth 20000 in
theorem ggL_law_L_fewestRolls : GoodIn wsL_law wsL_fewestRolls := goodIn_ca (goodIn_r _ [480, 112, 481, 482, 483, 2, 484, 20, 120, 121, 122, 123, 124, 125, 16, 126, 15, 127, 128, 46, 47, 485, 486, 487, 488, 39, 40, 489, 19, 490, 491, 33, 492, 493, 494, 495, 496, 497, 498, 499, 34, 500, 501, 502, 503, 504, 505, 506, 228, 229, 230, 231, 201, 202, 232, 207, 208, 233, 192, 193, 194, 28, 195, 196, 129, 130, 234, 235, 236, 237, 238, 239, 240, 241, 242, 243, 244, 245, 246, 247, 248, 249, 250, 251, 507, 508, 509, 510, 511, 512, 513, 514, 515, 516, 517, 518, 174, 175, 176, 695, 696, 697, 698, 699, 700, 701, 702, 728, 729, 730, 731, 732, 733, 734] (by decide +kernel) (by decide +kernel)) (goodIn_sub (fun _ h => List.mem_append_right _ h) (by decide +kernel))
set_option maxRecDepth 20000 in
theorem gL_law_L_fewestRolls : GoodIn wsL_law (va_wsS RL 175 yL_fewestRolls wsL_fewestRolls) := goodIn_app (goodIn_of _ (by decide +kernel)) ggL_law_L_fewestRolls
set_option maxRecDepth 20000 in
theorem ggL_law_X4_fewestRolls : GoodIn wsL_law wsX4_fewestRolls := goodIn_r _ [522, 97, 67, 138, 139, 140, 5, 141, 68, 98, 99, 100, 523, 524, 525, 526, 286, 287, 288, 289, 71, 278, 76, 279, 77, 280, 78, 281, 527, 528, 529, 530, 56, 531, 57, 532, 533, 534, 535, 58, 59, 60, 282, 283, 284, 285, 52, 536, 537, 538, 539, 290, 291, 292, 293, 540, 541, 542, 543, 544, 545, 546, 547, 101, 102, 103, 104, 703, 704, 705, 706, 707, 708, 709, 710, 711, 712, 713, 714, 715, 716, 717, 718, 719, 720, 721, 722, 723, 724, 725, 726, 727] (by decide +kernel) (by decide +kernel)
set_option maxRecDepth 20000 in
theorem gL_law_X4_fewestRolls : GoodIn wsL_law (wsV RL 177 RX4 yX4_fewestRolls wsX4_fewestRolls) := goodIn_app (goodIn_of _ (by decide +kernel)) ggL_law_X4_fewestRolls
set_option maxRecDepth 20000 in
theorem ggL_law_L_fewestRollsWithTop : GoodIn wsL_law wsL_fewestRollsWithTop := goodIn_ca (goodIn_r _ [550, 112, 551, 552, 553, 2, 554, 20, 120, 121, 122, 123, 124, 125, 16, 126, 15, 127, 128, 46, 47, 153, 154, 155, 156, 157, 158, 485, 486, 487, 488, 39, 40, 489, 19, 490, 491, 33, 492, 493, 494, 495, 496, 497, 498, 499, 34, 500, 501, 502, 503, 504, 505, 506, 228, 229, 230, 231, 201, 202, 232, 207, 208, 233, 192, 193, 194, 28, 195, 196, 129, 130, 234, 235, 236, 237, 238, 239, 240, 241, 242, 243, 244, 245, 246, 247, 248, 249, 250, 251, 507, 512, 513, 514, 515, 516, 517, 518, 174, 175, 176, 695, 696, 697, 698, 699, 700, 701, 702, 728, 729, 730, 731, 732, 733, 734] (by decide +kernel) (by decide +kernel)) (goodIn_sub (fun _ h => List.mem_append_right _ h) (by decide +kernel))
set_option maxRecDepth 20000 in
theorem gL_law_L_fewestRollsWithTop : GoodIn wsL_law (va_wsS RL 178 yL_fewestRollsWithTop wsL_fewestRollsWithTop) := goodIn_app (goodIn_of _ (by decide +kernel)) ggL_law_L_fewestRollsWithTop
set_option maxRecDepth 20000 in
theorem ggL_law_X4_fewestRollsWithTop : GoodIn wsL_law wsX4_fewestRollsWithTop := goodIn_r _ [558, 97, 67, 138, 139, 140, 5, 141, 68, 98, 99, 100, 163, 164, 165, 523, 524, 525, 526, 286, 287, 288, 289, 71, 278, 76, 279, 77, 280, 78, 281, 527, 528, 529, 530, 56, 531, 57, 532, 533, 534, 535, 58, 59, 60, 282, 283, 284, 285, 52, 536, 537, 538, 539, 290, 291, 292, 293, 540, 541, 542, 543, 544, 545, 546, 547, 101, 102, 103, 104, 703, 704, 705, 706, 707, 708, 709, 710, 711, 712, 713, 714, 715, 716, 717, 718, 719, 720, 721, 722, 723, 724, 725, 726, 727] (by decide +kernel) (by decide +kernel)
set_option maxRecDepth 20000 in
theorem gL_law_X4_fewestRollsWithTop : GoodIn wsL_law (wsV RL 181 RX4 yX4_fewestRollsWithTop wsX4_fewestRollsWithTop) := goodIn_app (goodIn_of _ (by decide +kernel)) ggL_law_X4_fewestRollsWithTop
set_option maxRecDepth 20000 in
theorem ggL_law_L_firstRoll : GoodIn wsL_law wsL_firstRoll := goodIn_ca (goodIn_r _ [561, 112, 562, 563, 564, 2, 565, 20, 39, 40, 16, 120, 121, 122, 123, 124, 125, 126, 15, 127, 128, 46, 47, 153, 154, 155, 156, 157, 158, 129, 130, 566, 567, 568, 569, 489, 19, 490, 491, 33, 492, 493, 494, 495, 496, 570, 571, 572, 231, 201, 202, 232, 207, 208, 233, 192, 193, 194, 28, 195, 196, 244, 235, 245, 497, 498, 499, 34, 500, 501, 502, 503, 504, 505, 506, 228, 229, 230, 234, 236, 237, 238, 239, 240, 241, 242, 243, 246, 247, 248, 249, 250, 251, 507, 695, 696, 697, 698, 699, 700, 701, 702, 728, 729, 730, 731, 732, 733, 734] (by decide +kernel) (by decide +kernel)) (goodIn_sub (fun _ h => List.mem_append_right _ h) (by decide +kernel))
set_option maxRecDepth 20000 in
theorem gL_law_L_firstRoll : GoodIn wsL_law (va_wsS RL 182 yL_firstRoll wsL_firstRoll) := goodIn_app (goodIn_of _ (by decide +kernel)) ggL_law_L_firstRoll
set_option maxRecDepth 20000 in
theorem ggL_law_X4_firstRoll : GoodIn wsL_law wsX4_firstRoll := goodIn_r _ [576, 97, 67, 138, 139, 140, 5, 141, 68, 98, 99, 100, 163, 164, 165, 577, 578, 579, 580, 71, 523, 524, 525, 526, 286, 287, 288, 289, 278, 76, 279, 77, 280, 78, 281, 527, 528, 529, 530, 56, 531, 57, 532, 533, 534, 535, 58, 59, 60, 282, 283, 284, 285, 52, 536, 537, 538, 539, 290, 291, 292, 293, 540, 541, 542, 543, 544, 545, 546, 547, 101, 102, 103, 104, 703, 704, 705, 706, 707, 708, 709, 710, 711, 712, 713, 714, 715, 716, 717, 718, 719, 720, 721, 722, 723, 724, 725, 726, 727] (by decide +kernel) (by decide +kernel)
set_option maxRecDepth 20000 in
theorem gL_law_X4_firstRoll : GoodIn wsL_law (wsV RL 184 RX4 yX4_firstRoll wsX4_firstRoll) := goodIn_app (goodIn_of _ (by decide +kernel)) ggL_law_X4_firstRoll
set_option maxRecDepth 20000 in
theorem ggL_law_L_topsAt : GoodIn wsL_law wsL_topsAt := goodIn_ca (goodIn_r _ [583, 112, 584, 585, 586, 2, 587, 20, 120, 121, 122, 123, 124, 125, 16, 126, 15, 127, 128, 46, 47, 485, 486, 487, 488, 39, 40, 489, 19, 490, 491, 33, 492, 493, 494, 495, 496, 497, 498, 499, 34, 500, 501, 502, 503, 504, 505, 506, 228, 229, 230, 231, 201, 202, 232, 207, 208, 233, 192, 193, 194, 28, 195, 196, 129, 130, 234, 235, 236, 237, 238, 239, 240, 241, 242, 243, 244, 245, 246, 247, 248, 249, 250, 251, 507, 588, 589, 590, 511, 512, 513, 514, 515, 516, 517, 518, 174, 175, 176, 695, 696, 697, 698, 699, 700, 701, 702, 728, 729, 730, 731, 732, 733, 734] (by decide +kernel) (by decide +kernel)) (goodIn_sub (fun _ h => List.mem_append_right _ h) (by decide +kernel))
set_option maxRecDepth 20000 in
theorem gL_law_L_topsAt : GoodIn wsL_law (va_wsS RL 185 yL_topsAt wsL_topsAt) := goodIn_app (goodIn_of _ (by decide +kernel)) ggL_law_L_topsAt
set_option maxRecDepth 20000 in
theorem ggL_law_X4_topsAt : GoodIn wsL_law wsX4_topsAt := goodIn_r _ [594, 97, 67, 138, 139, 140, 5, 141, 68, 98, 99, 100, 101, 102, 103, 104, 286, 287, 288, 289, 71, 278, 76, 279, 77, 280, 78, 281, 527, 528, 529, 530, 56, 531, 57, 532, 533, 534, 535, 58, 59, 60, 282, 283, 284, 285, 52, 536, 537, 538, 539, 290, 291, 292, 293, 540, 541, 542, 543, 595, 596, 597, 598, 544, 545, 546, 547, 703, 704, 705, 706, 707, 708, 709, 710, 711, 712, 713, 714, 715, 716, 717, 718, 719, 720, 721, 722, 723, 724, 725, 726, 727] (by decide +kernel) (by decide +kernel)
set_option maxRecDepth 20000 in
theorem gL_law_X4_topsAt : GoodIn wsL_law (wsV RL 187 RX4 yX4_topsAt wsX4_topsAt) := goodIn_app (goodIn_of _ (by decide +kernel)) ggL_law_X4_topsAt
set_option maxRecDepth 20000 in
theorem ggL_law_X3_cellsWithinReach : GoodIn wsL_law wsX3_cellsWithinReach := goodIn_r _ [602, 20, 485, 486, 487, 2, 488, 39, 40, 16, 489, 19, 490, 491, 33, 492, 493, 494, 495, 496, 497, 498, 499, 34, 500, 501, 502, 503, 504, 505, 506, 228, 15, 229, 230, 231, 201, 202, 232, 207, 208, 233, 192, 193, 194, 28, 195, 126, 127, 128, 46, 47, 196, 129, 130, 234, 235, 236, 237, 238, 239, 240, 241, 242, 243, 244, 245, 246, 247, 248, 249, 250, 251, 507, 508, 509, 510, 511, 512, 513, 514, 515, 516, 517, 518, 174, 175, 176, 695, 696, 697, 698, 699, 700, 701, 702, 732, 733, 734, 728, 729, 730, 731] (by decide +kernel) (by decide +kernel)
set_option maxRecDepth 20000 in
theorem gL_law_X3_cellsWithinReach : GoodIn wsL_law (wsV RL 188 RX3 yX3_cellsWithinReach wsX3_cellsWithinReach) := goodIn_app (goodIn_of _ (by decide +kernel)) ggL_law_X3_cellsWithinReach
