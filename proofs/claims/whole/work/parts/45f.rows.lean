/-! rows of the law, by program -/
set_option maxRecDepth 20000 in
theorem ggL_law_X4_cellsWithinReach : GoodIn wsL_law wsX4_cellsWithinReach := goodIn_r _ [606, 97, 67, 68, 286, 287, 288, 5, 289, 71, 278, 76, 279, 77, 280, 78, 281, 527, 528, 529, 530, 56, 531, 57, 532, 533, 534, 535, 58, 59, 60, 282, 283, 284, 285, 52, 138, 139, 140, 141, 98, 99, 100, 536, 537, 538, 539, 290, 291, 292, 293, 540, 541, 542, 543, 544, 545, 546, 547, 703, 704, 705, 706, 707, 708, 709, 710, 711, 712, 713, 714, 715, 716, 717, 718, 719, 720, 721, 722, 723, 724, 725, 726, 727] (by decide +kernel) (by decide +kernel)
set_option maxRecDepth 20000 in
theorem gL_law_X4_cellsWithinReach : GoodIn wsL_law (wsV RL 191 RX4 yX4_cellsWithinReach wsX4_cellsWithinReach) := goodIn_app (goodIn_of _ (by decide +kernel)) ggL_law_X4_cellsWithinReach
set_option maxRecDepth 20000 in
theorem ggL_law_X3_waysToLie : GoodIn wsL_law wsX3_waysToLie := goodIn_r _ [610, 20, 485, 486, 487, 2, 488, 39, 40, 16, 489, 19, 490, 491, 33, 492, 493, 494, 495, 496, 497, 498, 499, 34, 500, 501, 502, 503, 504, 505, 506, 228, 15, 229, 230, 231, 201, 202, 232, 207, 208, 233, 192, 193, 194, 28, 195, 126, 127, 128, 46, 47, 196, 129, 130, 234, 235, 236, 237, 238, 239, 240, 241, 242, 243, 244, 245, 246, 247, 248, 249, 250, 251, 507, 695, 696, 697, 698, 699, 700, 701, 702, 732, 733, 734, 728, 729, 730, 731] (by decide +kernel) (by decide +kernel)
set_option maxRecDepth 20000 in
theorem gL_law_X3_waysToLie : GoodIn wsL_law (wsV RL 192 RX3 yX3_waysToLie wsX3_waysToLie) := goodIn_app (goodIn_of _ (by decide +kernel)) ggL_law_X3_waysToLie
set_option maxRecDepth 20000 in
theorem ggL_law_X4_waysToLie : GoodIn wsL_law wsX4_waysToLie := goodIn_r _ [614, 97, 531, 286, 287, 288, 5, 289, 71, 278, 76, 279, 77, 280, 78, 281, 527, 528, 529, 530, 56, 57, 532, 533, 534, 535, 58, 59, 60, 282, 283, 284, 285, 67, 52, 138, 139, 140, 141, 68, 98, 99, 100, 536, 537, 538, 539, 290, 291, 292, 293, 540, 541, 542, 543, 703, 704, 705, 706, 707, 708, 709, 710, 711, 712, 713, 714, 715, 716, 717, 718, 719, 720, 721, 722, 723, 724, 725, 726, 727] (by decide +kernel) (by decide +kernel)
set_option maxRecDepth 20000 in
theorem gL_law_X4_waysToLie : GoodIn wsL_law (wsV RL 195 RX4 yX4_waysToLie wsX4_waysToLie) := goodIn_app (goodIn_of _ (by decide +kernel)) ggL_law_X4_waysToLie
set_option maxRecDepth 20000 in
theorem ggL_law_L_cellsBehind : GoodIn wsL_law wsL_cellsBehind := goodIn_ca (goodIn_r _ [617, 83, 618, 619, 620, 2, 621, 88, 89, 20, 622, 623, 624, 625, 16, 39, 228, 15, 229, 230, 231, 201, 202, 232, 207, 208, 233, 192, 193, 194, 28, 195, 126, 127, 128, 46, 47, 196, 129, 130, 485, 486, 487, 488, 40, 489, 19, 490, 491, 33, 492, 493, 494, 495, 496, 497, 498, 499, 34, 500, 501, 502, 503, 504, 505, 506, 234, 235, 236, 237, 238, 239, 240, 241, 242, 243, 244, 245, 246, 247, 248, 249, 250, 251, 507, 508, 509, 510, 511, 512, 513, 514, 515, 516, 517, 518, 174, 175, 176, 695, 696, 697, 698, 699, 700, 701, 702, 728, 729, 730, 731, 732, 733, 734] (by decide +kernel) (by decide +kernel)) (goodIn_sub (fun _ h => List.mem_append_left _ (List.mem_append_left _ (List.mem_append_right _ h))) (by decide +kernel))
set_option maxRecDepth 20000 in
theorem gL_law_L_cellsBehind : GoodIn wsL_law (va_wsS RL 196 yL_cellsBehind wsL_cellsBehind) := goodIn_app (goodIn_of _ (by decide +kernel)) ggL_law_L_cellsBehind
set_option maxRecDepth 20000 in
theorem ggL_law_X4_cellsBehind : GoodIn wsL_law wsX4_cellsBehind := goodIn_r _ [629, 97, 98, 99, 5, 100, 630, 631, 632, 633, 61, 71, 634, 635, 636, 637, 62, 67, 68, 638, 639, 640, 641, 282, 283, 284, 285, 52, 138, 139, 140, 141, 101, 102, 103, 104, 703, 704, 705, 706, 707, 708, 709, 710, 711, 712, 713, 714, 715, 716, 717, 718, 719, 720, 721, 722, 723, 724, 725, 726, 727] (by decide +kernel) (by decide +kernel)
set_option maxRecDepth 20000 in
theorem gL_law_X4_cellsBehind : GoodIn wsL_law (wsV RL 198 RX4 yX4_cellsBehind wsX4_cellsBehind) := goodIn_app (goodIn_of _ (by decide +kernel)) ggL_law_X4_cellsBehind
set_option maxRecDepth 20000 in
theorem ggL_law_L_bestPut : GoodIn wsL_law wsL_bestPut := goodIn_ca (goodIn_r _ [644, 112, 645, 646, 647, 2, 648, 39, 16, 20, 153, 154, 155, 124, 125, 156, 157, 158, 566, 567, 568, 569, 489, 19, 490, 491, 33, 492, 493, 494, 495, 496, 570, 15, 571, 572, 231, 201, 202, 232, 207, 208, 233, 192, 193, 194, 28, 195, 126, 127, 128, 46, 47, 196, 129, 130, 244, 235, 245, 497, 498, 499, 34, 500, 501, 502, 503, 504, 505, 506, 228, 229, 230, 234, 236, 237, 238, 239, 240, 241, 242, 243, 246, 247, 248, 249, 250, 251, 507, 695, 696, 697, 698, 699, 700, 701, 702, 728, 729, 730, 731, 732, 733, 734] (by decide +kernel) (by decide +kernel)) (goodIn_sub (fun _ h => List.mem_append_right _ h) (by decide +kernel))
set_option maxRecDepth 20000 in
theorem gL_law_L_bestPut : GoodIn wsL_law (va_wsS RL 199 yL_bestPut wsL_bestPut) := goodIn_app (goodIn_of _ (by decide +kernel)) ggL_law_L_bestPut
set_option maxRecDepth 20000 in
theorem ggL_law_X4_bestPut : GoodIn wsL_law wsX4_bestPut := goodIn_r _ [652, 97, 163, 164, 5, 165, 98, 99, 100, 653, 654, 655, 656, 67, 68, 52, 71, 657, 658, 659, 660, 278, 279, 280, 281, 527, 528, 529, 530, 56, 531, 57, 532, 533, 534, 535, 58, 59, 60, 282, 283, 284, 285, 138, 139, 140, 141, 536, 537, 538, 539, 290, 291, 292, 293, 540, 541, 542, 543, 544, 545, 546, 547, 101, 102, 103, 104, 703, 704, 705, 706, 707, 708, 709, 710, 711, 712, 713, 714, 715, 716, 717, 718, 719, 720, 721, 722, 723, 724, 725, 726, 727] (by decide +kernel) (by decide +kernel)
set_option maxRecDepth 20000 in
theorem gL_law_X4_bestPut : GoodIn wsL_law (wsV RL 201 RX4 yX4_bestPut wsX4_bestPut) := goodIn_app (goodIn_of _ (by decide +kernel)) ggL_law_X4_bestPut
set_option maxRecDepth 20000 in
theorem ggL_law_X3_meanPaint : GoodIn wsL_law wsX3_meanPaint := goodIn_r _ [664, 23, 665, 695, 696, 697, 698, 699, 700, 701, 702] (by decide +kernel) (by decide +kernel)
set_option maxRecDepth 20000 in
theorem gL_law_X3_meanPaint : GoodIn wsL_law (wsV RL 202 RX3 yX3_meanPaint wsX3_meanPaint) := goodIn_app (goodIn_of _ (by decide +kernel)) ggL_law_X3_meanPaint
set_option maxRecDepth 20000 in
theorem ggL_law_X4_meanPaint : GoodIn wsL_law wsX4_meanPaint := goodIn_r _ [669, 97, 55, 670, 703, 704, 705, 706, 707, 708, 709, 710, 711, 712, 713, 714, 715, 716, 717, 718, 719, 720, 721, 722, 723, 724, 725, 726, 727] (by decide +kernel) (by decide +kernel)
set_option maxRecDepth 20000 in
theorem gL_law_X4_meanPaint : GoodIn wsL_law (wsV RL 206 RX4 yX4_meanPaint wsX4_meanPaint) := goodIn_app (goodIn_of _ (by decide +kernel)) ggL_law_X4_meanPaint
set_option maxRecDepth 20000 in
theorem ggL_law_X3_digest : GoodIn wsL_law wsX3_digest := goodIn_r _ [674, 675, 40, 22, 23, 676, 417, 418, 2, 419, 16, 677, 678, 679, 680, 681, 425, 426, 427, 682, 433, 434, 435, 436, 15, 437, 438, 28, 683, 448, 449, 450, 41, 684, 456, 457, 458, 42, 197, 198, 199, 200, 39, 201, 202, 203, 204, 205, 206, 207, 208, 260, 261, 262, 263, 238, 235, 239, 256, 257, 258, 259, 340, 341, 240, 241, 242, 246, 247, 248, 237, 249, 250, 251, 685, 686, 687, 688, 20, 485, 486, 487, 488, 489, 19, 490, 491, 33, 492, 493, 494, 495, 496, 497, 498, 499, 34, 500, 501, 502, 503, 504, 505, 506, 228, 229, 230, 231, 232, 233, 192, 193, 194, 195, 126, 127, 128, 46, 47, 196, 129, 130, 234, 236, 243, 244, 245, 507, 398, 399, 400, 29, 508, 509, 510, 511, 512, 513, 514, 515, 516, 517, 518, 174, 175, 176, 588, 589, 590, 695, 696, 697, 698, 699, 700, 701, 702, 728, 729, 730, 731, 732, 733, 734] (by decide +kernel) (by decide +kernel)
set_option maxRecDepth 20000 in
theorem gL_law_X3_digest : GoodIn wsL_law (wsV RL 207 RX3 yX3_digest wsX3_digest) := goodIn_app (goodIn_of _ (by decide +kernel)) ggL_law_X3_digest
set_option maxRecDepth 20000 in
theorem ggL_law_X4_digest : GoodIn wsL_law wsX4_digest := goodIn_r _ [692, 97, 21, 67, 68, 69, 70, 71, 76, 693, 694, 54, 55, 52, 53, 443, 444, 445, 5, 446, 346, 347, 348, 349, 77, 78, 286, 287, 288, 289, 278, 279, 280, 281, 527, 528, 529, 530, 56, 531, 57, 532, 533, 534, 535, 58, 59, 60, 282, 283, 284, 285, 138, 139, 140, 141, 98, 99, 100, 536, 537, 538, 539, 290, 291, 292, 293, 540, 541, 542, 543, 544, 545, 546, 547, 595, 596, 597, 598, 703, 704, 705, 706, 707, 708, 709, 710, 711, 712, 713, 714, 715, 716, 717, 718, 719, 720, 721, 722, 723, 724, 725, 726, 727] (by decide +kernel) (by decide +kernel)
set_option maxRecDepth 20000 in
theorem gL_law_X4_digest : GoodIn wsL_law (wsV RL 211 RX4 yX4_digest wsX4_digest) := goodIn_app (goodIn_of _ (by decide +kernel)) ggL_law_X4_digest
