/-! rows of the law, by program -/
theorem dL_below_0 : decode cL_below 0 = .ok (.iload_n 0, 1) := by decide +kernel
theorem dL_below_1 : decode cL_below 1 = .ok (.ldc 7, 2) := by decide +kernel
theorem dL_below_3 : decode cL_below 3 = .ok (.iand, 1) := by decide +kernel
theorem dL_below_4 : decode cL_below 4 = .ok (.iload_n 1, 1) := by decide +kernel
theorem dL_below_5 : decode cL_below 5 = .ok (.irem, 1) := by decide +kernel
theorem dL_below_6 : decode cL_below 6 = .ok (.ireturn, 1) := by decide +kernel
theorem dL_cell_0 : decode cL_cell 0 = .ok (.iload_n 1, 1) := by decide +kernel
theorem dL_cell_1 : decode cL_cell 1 = .ok (.aload_n 0, 1) := by decide +kernel
theorem dL_cell_2 : decode cL_cell 2 = .ok (.arraylength, 1) := by decide +kernel
theorem dL_cell_3 : decode cL_cell 3 = .ok (.if_icmp .ge 9, 3) := by decide +kernel
theorem dL_cell_6 : decode cL_cell 6 = .ok (.aload_n 0, 1) := by decide +kernel
theorem dL_cell_7 : decode cL_cell 7 = .ok (.iload_n 1, 1) := by decide +kernel
theorem dL_cell_8 : decode cL_cell 8 = .ok (.iaload, 1) := by decide +kernel
theorem dL_cell_9 : decode cL_cell 9 = .ok (.goto 9, 3) := by decide +kernel
theorem dL_cell_12 : decode cL_cell 12 = .ok (.ldc 8, 2) := by decide +kernel
theorem dL_cell_14 : decode cL_cell 14 = .ok (.iload_n 1, 1) := by decide +kernel
theorem dL_cell_15 : decode cL_cell 15 = .ok (.iconst 3, 1) := by decide +kernel
theorem dL_cell_16 : decode cL_cell 16 = .ok (.iadd, 1) := by decide +kernel
theorem dL_cell_17 : decode cL_cell 17 = .ok (.imul, 1) := by decide +kernel
theorem dL_cell_18 : decode cL_cell 18 = .ok (.ireturn, 1) := by decide +kernel
set_option maxRecDepth 20000 in
theorem ggL_act_L_below : GoodIn wsL_act wsL_below := goodIn_r _ [20, 21] (by decide +kernel) (by decide +kernel)
set_option maxRecDepth 20000 in
theorem gL_act_L_below : GoodIn wsL_act (va_wsS RL 15 yL_below wsL_below) := goodIn_app (goodIn_of _ (by decide +kernel)) ggL_act_L_below
set_option maxRecDepth 20000 in
theorem ggL_act_X4_board : GoodIn wsL_act wsX4_board := goodIn_r _ [26, 27, 28, 29, 30, 31, 32, 33, 34, 35, 36, 37, 38, 39, 25, 40, 41, 42, 43, 208, 209, 210, 211, 212, 213, 214, 215, 216, 217, 218] (by decide +kernel) (by decide +kernel)
set_option maxRecDepth 20000 in
theorem gL_act_X4_board : GoodIn wsL_act (wsV RL 24 RX4 yX4_board wsX4_board) := goodIn_app (goodIn_of _ (by decide +kernel)) ggL_act_X4_board
set_option maxRecDepth 20000 in
theorem ggL_act_X3_newBoard : GoodIn wsL_act wsX3_newBoard := goodIn_ca (goodIn_r _ [48, 49, 50, 51, 52, 47, 53, 54, 55, 56, 57, 58, 59, 60, 61, 62, 63, 64, 65, 66, 67, 68, 69, 70, 219, 220, 221, 222, 223, 224, 225, 226, 227, 228, 229, 230] (by decide +kernel) (by decide +kernel)) (goodIn_sub (fun _ h => List.mem_cons_of_mem _ (List.mem_append_left _ (List.mem_append_left _ (List.mem_append_right _ h)))) (by decide +kernel))
set_option maxRecDepth 20000 in
theorem gL_act_X3_newBoard : GoodIn wsL_act (wsV RL 28 RX3 yX3_newBoard wsX3_newBoard) := goodIn_app (goodIn_of _ (by decide +kernel)) ggL_act_X3_newBoard
set_option maxRecDepth 20000 in
theorem ggL_act_X3_turnWall : GoodIn wsL_act wsX3_turnWall := goodIn_ca (goodIn_ca (goodIn_r _ [74, 75, 76, 59, 58, 77, 78, 79, 47, 80, 81, 82, 83, 64, 84, 85, 67, 68, 86, 87, 88, 89, 90, 69, 219, 220, 221, 222, 223, 224, 225, 226, 227, 228, 229, 230] (by decide +kernel) (by decide +kernel)) (goodIn_sub (fun _ h => List.mem_cons_of_mem _ (List.mem_append_left _ (List.mem_append_right _ h))) (by decide +kernel))) (goodIn_sub (fun _ h => List.mem_cons_of_mem _ (List.mem_append_right _ h)) (by decide +kernel))
set_option maxRecDepth 20000 in
theorem gL_act_X3_turnWall : GoodIn wsL_act (wsV RL 43 RX3 yX3_turnWall wsX3_turnWall) := goodIn_app (goodIn_of _ (by decide +kernel)) ggL_act_X3_turnWall
set_option maxRecDepth 20000 in
theorem ggL_act_X3_setColour : GoodIn wsL_act wsX3_setColour := goodIn_ca (goodIn_ca (goodIn_r _ [94, 49, 50, 95, 96, 97, 47, 98, 81, 82, 99, 100, 101, 219, 220, 221, 222, 223, 224, 225, 226] (by decide +kernel) (by decide +kernel)) (goodIn_sub (fun _ h => List.mem_cons_of_mem _ (List.mem_append_left _ (List.mem_append_left _ (List.mem_append_right _ h)))) (by decide +kernel))) (goodIn_sub (fun _ h => List.mem_cons_of_mem _ (List.mem_append_right _ h)) (by decide +kernel))
set_option maxRecDepth 20000 in
theorem gL_act_X3_setColour : GoodIn wsL_act (wsV RL 53 RX3 yX3_setColour wsX3_setColour) := goodIn_app (goodIn_of _ (by decide +kernel)) ggL_act_X3_setColour
set_option maxRecDepth 20000 in
theorem ggL_act_X3_addPaint : GoodIn wsL_act wsX3_addPaint := goodIn_ca (goodIn_ca (goodIn_r _ [105, 49, 50, 106, 107, 10, 11, 12, 96, 97, 47, 98, 81, 82, 99, 100, 101, 219, 220, 221, 222, 223, 224, 225, 226] (by decide +kernel) (by decide +kernel)) (goodIn_sub (fun _ h => List.mem_cons_of_mem _ (List.mem_append_left _ (List.mem_append_left _ (List.mem_append_right _ h)))) (by decide +kernel))) (goodIn_sub (fun _ h => List.mem_cons_of_mem _ (List.mem_append_right _ h)) (by decide +kernel))
set_option maxRecDepth 20000 in
theorem gL_act_X3_addPaint : GoodIn wsL_act (wsV RL 64 RX3 yX3_addPaint wsX3_addPaint) := goodIn_app (goodIn_of _ (by decide +kernel)) ggL_act_X3_addPaint
set_option maxRecDepth 20000 in
theorem ggL_act_X4_put : GoodIn wsL_act wsX4_put := goodIn_r _ [40, 41, 42, 33, 43, 208, 209, 210, 211, 212, 213, 214, 215, 216, 217, 218] (by decide +kernel) (by decide +kernel)
set_option maxRecDepth 20000 in
theorem gL_act_X4_put : GoodIn wsL_act (wsV RL 71 RX4 yX4_put wsX4_put) := goodIn_app (goodIn_of _ (by decide +kernel)) ggL_act_X4_put
set_option maxRecDepth 20000 in
theorem ggL_act_X3_put : GoodIn wsL_act wsX3_put := goodIn_ca (goodIn_ca (goodIn_r _ [112, 75, 76, 58, 113, 14, 11, 15, 59, 60, 77, 78, 79, 47, 80, 81, 82, 83, 64, 84, 85, 67, 68, 114, 115, 116, 69, 117, 118, 86, 87, 119, 120, 121, 122, 123, 124, 125, 126, 127, 128, 129, 130, 219, 220, 221, 222, 223, 224, 225, 226, 227, 228, 229, 230] (by decide +kernel) (by decide +kernel)) (goodIn_sub (fun _ h => List.mem_cons_of_mem _ (List.mem_append_left _ (List.mem_append_right _ h))) (by decide +kernel))) (goodIn_sub (fun _ h => List.mem_cons_of_mem _ (List.mem_append_right _ h)) (by decide +kernel))
set_option maxRecDepth 20000 in
theorem gL_act_X3_put : GoodIn wsL_act (wsV RL 74 RX3 yX3_put wsX3_put) := goodIn_app (goodIn_of _ (by decide +kernel)) ggL_act_X3_put
set_option maxRecDepth 20000 in
theorem ggL_act_X4_roll : GoodIn wsL_act wsX4_roll := goodIn_r _ [134, 41, 42, 43, 35, 135, 34, 136, 36, 137, 138, 139, 25, 140, 141, 142, 143, 144, 27, 28, 31, 145, 146, 147, 148, 149, 150, 151, 152, 153, 208, 209, 210, 211, 212, 213, 214, 215, 216, 217, 218] (by decide +kernel) (by decide +kernel)
set_option maxRecDepth 20000 in
theorem gL_act_X4_roll : GoodIn wsL_act (wsV RL 76 RX4 yX4_roll wsX4_roll) := goodIn_app (goodIn_of _ (by decide +kernel)) ggL_act_X4_roll
set_option maxRecDepth 20000 in
theorem ggL_act_X3_rollOn : GoodIn wsL_act wsX3_rollOn := goodIn_ca (goodIn_ca (goodIn_r _ [157, 49, 50, 158, 159, 47, 160, 81, 82, 161, 162, 163, 164, 58, 59, 60, 61, 165, 64, 166, 167, 168, 123, 124, 169, 129, 130, 170, 114, 115, 116, 69, 117, 83, 84, 85, 67, 68, 118, 86, 87, 171, 172, 173, 174, 175, 176, 177, 178, 179, 180, 181, 182, 183, 184, 185, 186, 187, 188, 189, 190, 191, 192, 106, 95, 62, 193, 194, 195, 196, 197, 198, 199, 200, 99, 100, 101, 201, 202, 203, 70, 219, 220, 221, 222, 223, 224, 225, 226, 227, 228, 229, 230] (by decide +kernel) (by decide +kernel)) (goodIn_sub (fun _ h => List.mem_cons_of_mem _ (List.mem_append_left _ (List.mem_append_left _ (List.mem_append_right _ h)))) (by decide +kernel))) (goodIn_sub (fun _ h => List.mem_cons_of_mem _ (List.mem_append_right _ h)) (by decide +kernel))
set_option maxRecDepth 20000 in
theorem gL_act_X3_rollOn : GoodIn wsL_act (wsV RL 80 RX3 yX3_rollOn wsX3_rollOn) := goodIn_app (goodIn_of _ (by decide +kernel)) ggL_act_X3_rollOn
set_option maxRecDepth 20000 in
theorem ggL_act_X3_roll : GoodIn wsL_act wsX3_roll := goodIn_ca (goodIn_ca (goodIn_r _ [207, 75, 76, 158, 159, 47, 160, 81, 82, 161, 162, 163, 164, 58, 59, 60, 61, 165, 64, 166, 167, 168, 123, 124, 169, 129, 130, 170, 114, 115, 116, 69, 117, 83, 84, 85, 67, 68, 118, 86, 87, 171, 172, 173, 174, 175, 176, 177, 178, 179, 180, 181, 182, 183, 184, 185, 186, 187, 188, 189, 190, 191, 192, 106, 95, 62, 193, 194, 195, 196, 197, 198, 199, 200, 99, 100, 101, 201, 202, 203, 70, 219, 220, 221, 222, 223, 224, 225, 226, 227, 228, 229, 230] (by decide +kernel) (by decide +kernel)) (goodIn_sub (fun _ h => List.mem_cons_of_mem _ (List.mem_append_left _ (List.mem_append_right _ h))) (by decide +kernel))) (goodIn_sub (fun _ h => List.mem_cons_of_mem _ (List.mem_append_right _ h)) (by decide +kernel))
set_option maxRecDepth 20000 in
theorem gL_act_X3_roll : GoodIn wsL_act (wsV RL 83 RX3 yX3_roll wsX3_roll) := goodIn_app (goodIn_of _ (by decide +kernel)) ggL_act_X3_roll
theorem dL_act_0 : decode cL_act 0 = .ok (.iload_n 2, 1) := by decide +kernel
theorem dL_act_1 : decode cL_act 1 = .ok (.iconst 4, 1) := by decide +kernel
theorem dL_act_2 : decode cL_act 2 = .ok (.ishr, 1) := by decide +kernel
theorem dL_act_3 : decode cL_act 3 = .ok (.aload_n 1, 1) := by decide +kernel
theorem dL_act_4 : decode cL_act 4 = .ok (.getfield 9, 3) := by decide +kernel
theorem dL_act_7 : decode cL_act 7 = .ok (.invokestatic 15, 3) := by decide +kernel
theorem dL_act_10 : decode cL_act 10 = .ok (.istore_n 3, 1) := by decide +kernel
theorem dL_act_11 : decode cL_act 11 = .ok (.iload_n 2, 1) := by decide +kernel
theorem dL_act_12 : decode cL_act 12 = .ok (.bipush 6, 2) := by decide +kernel
theorem dL_act_14 : decode cL_act 14 = .ok (.ishr, 1) := by decide +kernel
theorem dL_act_15 : decode cL_act 15 = .ok (.aload_n 1, 1) := by decide +kernel
theorem dL_act_16 : decode cL_act 16 = .ok (.getfield 21, 3) := by decide +kernel
theorem dL_act_19 : decode cL_act 19 = .ok (.invokestatic 15, 3) := by decide +kernel
theorem dL_act_22 : decode cL_act 22 = .ok (.istore 4, 2) := by decide +kernel
theorem dL_act_24 : decode cL_act 24 = .ok (.iconst 1, 1) := by decide +kernel
theorem dL_act_25 : decode cL_act 25 = .ok (.iload_n 2, 1) := by decide +kernel
theorem dL_act_26 : decode cL_act 26 = .ok (.iconst 5, 1) := by decide +kernel
theorem dL_act_27 : decode cL_act 27 = .ok (.ishr, 1) := by decide +kernel
theorem dL_act_28 : decode cL_act 28 = .ok (.bipush 6, 2) := by decide +kernel
theorem dL_act_30 : decode cL_act 30 = .ok (.invokestatic 15, 3) := by decide +kernel
theorem dL_act_33 : decode cL_act 33 = .ok (.iadd, 1) := by decide +kernel
theorem dL_act_34 : decode cL_act 34 = .ok (.istore 5, 2) := by decide +kernel
theorem dL_act_36 : decode cL_act 36 = .ok (.iload_n 2, 1) := by decide +kernel
theorem dL_act_37 : decode cL_act 37 = .ok (.bipush 16, 2) := by decide +kernel
theorem dL_act_39 : decode cL_act 39 = .ok (.invokestatic 15, 3) := by decide +kernel
theorem dL_act_42 : decode cL_act 42 = .ok (.tableswitch 509 0 8 #[50, 118, 118, 216, 267, 267, 340, 429, 429], 50) := by decide +kernel
theorem dL_act_92 : decode cL_act 92 = .ok (.iload_n 2, 1) := by decide +kernel
theorem dL_act_93 : decode cL_act 93 = .ok (.bipush 8, 2) := by decide +kernel
theorem dL_act_95 : decode cL_act 95 = .ok (.ishr, 1) := by decide +kernel
theorem dL_act_96 : decode cL_act 96 = .ok (.iconst 5, 1) := by decide +kernel
theorem dL_act_97 : decode cL_act 97 = .ok (.invokestatic 15, 3) := by decide +kernel
theorem dL_act_100 : decode cL_act 100 = .ok (.ifCond .le 5, 3) := by decide +kernel
theorem dL_act_103 : decode cL_act 103 = .ok (.iconst 1, 1) := by decide +kernel
theorem dL_act_104 : decode cL_act 104 = .ok (.ireturn, 1) := by decide +kernel
theorem dL_act_105 : decode cL_act 105 = .ok (.aload_n 1, 1) := by decide +kernel
theorem dL_act_106 : decode cL_act 106 = .ok (.iconst 2, 1) := by decide +kernel
theorem dL_act_107 : decode cL_act 107 = .ok (.iload_n 2, 1) := by decide +kernel
theorem dL_act_108 : decode cL_act 108 = .ok (.iconst 4, 1) := by decide +kernel
theorem dL_act_109 : decode cL_act 109 = .ok (.ishr, 1) := by decide +kernel
theorem dL_act_110 : decode cL_act 110 = .ok (.bipush 6, 2) := by decide +kernel
theorem dL_act_112 : decode cL_act 112 = .ok (.invokestatic 15, 3) := by decide +kernel
theorem dL_act_115 : decode cL_act 115 = .ok (.iadd, 1) := by decide +kernel
theorem dL_act_116 : decode cL_act 116 = .ok (.iconst 2, 1) := by decide +kernel
theorem dL_act_117 : decode cL_act 117 = .ok (.iload_n 2, 1) := by decide +kernel
theorem dL_act_118 : decode cL_act 118 = .ok (.bipush 6, 2) := by decide +kernel
theorem dL_act_120 : decode cL_act 120 = .ok (.ishr, 1) := by decide +kernel
theorem dL_act_121 : decode cL_act 121 = .ok (.bipush 6, 2) := by decide +kernel
theorem dL_act_123 : decode cL_act 123 = .ok (.invokestatic 15, 3) := by decide +kernel
theorem dL_act_126 : decode cL_act 126 = .ok (.iadd, 1) := by decide +kernel
theorem dL_act_127 : decode cL_act 127 = .ok (.invokevirtual 24, 3) := by decide +kernel
theorem dL_act_130 : decode cL_act 130 = .ok (.aload_n 0, 1) := by decide +kernel
theorem dL_act_131 : decode cL_act 131 = .ok (.aload_n 1, 1) := by decide +kernel
theorem dL_act_132 : decode cL_act 132 = .ok (.getfield 9, 3) := by decide +kernel
theorem dL_act_135 : decode cL_act 135 = .ok (.aload_n 1, 1) := by decide +kernel
theorem dL_act_136 : decode cL_act 136 = .ok (.getfield 21, 3) := by decide +kernel
theorem dL_act_139 : decode cL_act 139 = .ok (.invokevirtual 28, 3) := by decide +kernel
theorem dL_act_142 : decode cL_act 142 = .ok (.aload_n 1, 1) := by decide +kernel
theorem dL_act_143 : decode cL_act 143 = .ok (.getfield 9, 3) := by decide +kernel
theorem dL_act_146 : decode cL_act 146 = .ok (.aload_n 1, 1) := by decide +kernel
theorem dL_act_147 : decode cL_act 147 = .ok (.getfield 21, 3) := by decide +kernel
theorem dL_act_150 : decode cL_act 150 = .ok (.imul, 1) := by decide +kernel
theorem dL_act_151 : decode cL_act 151 = .ok (.if_icmp .ne 7, 3) := by decide +kernel
theorem dL_act_154 : decode cL_act 154 = .ok (.iconst 1, 1) := by decide +kernel
theorem dL_act_155 : decode cL_act 155 = .ok (.goto 4, 3) := by decide +kernel
theorem dL_act_158 : decode cL_act 158 = .ok (.iconst 0, 1) := by decide +kernel
theorem dL_act_159 : decode cL_act 159 = .ok (.ireturn, 1) := by decide +kernel
theorem dL_act_160 : decode cL_act 160 = .ok (.iload_n 3, 1) := by decide +kernel
theorem dL_act_161 : decode cL_act 161 = .ok (.aload_n 1, 1) := by decide +kernel
theorem dL_act_162 : decode cL_act 162 = .ok (.getfield 33, 3) := by decide +kernel
theorem dL_act_165 : decode cL_act 165 = .ok (.if_icmp .ne 12, 3) := by decide +kernel
theorem dL_act_168 : decode cL_act 168 = .ok (.iload 4, 2) := by decide +kernel
theorem dL_act_170 : decode cL_act 170 = .ok (.aload_n 1, 1) := by decide +kernel
theorem dL_act_171 : decode cL_act 171 = .ok (.getfield 36, 3) := by decide +kernel
theorem dL_act_174 : decode cL_act 174 = .ok (.if_icmp .eq 7, 3) := by decide +kernel
theorem dL_act_177 : decode cL_act 177 = .ok (.iconst 1, 1) := by decide +kernel
theorem dL_act_178 : decode cL_act 178 = .ok (.goto 4, 3) := by decide +kernel
theorem dL_act_181 : decode cL_act 181 = .ok (.iconst 0, 1) := by decide +kernel
theorem dL_act_182 : decode cL_act 182 = .ok (.istore 6, 2) := by decide +kernel
theorem dL_act_184 : decode cL_act 184 = .ok (.iload 6, 2) := by decide +kernel
theorem dL_act_186 : decode cL_act 186 = .ok (.ifCond .eq 29, 3) := by decide +kernel
theorem dL_act_189 : decode cL_act 189 = .ok (.aload_n 1, 1) := by decide +kernel
theorem dL_act_190 : decode cL_act 190 = .ok (.getfield 39, 3) := by decide +kernel
theorem dL_act_193 : decode cL_act 193 = .ok (.iload_n 3, 1) := by decide +kernel
theorem dL_act_194 : decode cL_act 194 = .ok (.aaload, 1) := by decide +kernel
theorem dL_act_195 : decode cL_act 195 = .ok (.iload 4, 2) := by decide +kernel
theorem dL_act_197 : decode cL_act 197 = .ok (.aload_n 1, 1) := by decide +kernel
theorem dL_act_198 : decode cL_act 198 = .ok (.getfield 39, 3) := by decide +kernel
theorem dL_act_201 : decode cL_act 201 = .ok (.iload_n 3, 1) := by decide +kernel
theorem dL_act_202 : decode cL_act 202 = .ok (.aaload, 1) := by decide +kernel
theorem dL_act_203 : decode cL_act 203 = .ok (.iload 4, 2) := by decide +kernel
theorem dL_act_205 : decode cL_act 205 = .ok (.baload, 1) := by decide +kernel
theorem dL_act_206 : decode cL_act 206 = .ok (.ifCond .ne 7, 3) := by decide +kernel
theorem dL_act_209 : decode cL_act 209 = .ok (.iconst 1, 1) := by decide +kernel
theorem dL_act_210 : decode cL_act 210 = .ok (.goto 4, 3) := by decide +kernel
theorem dL_act_213 : decode cL_act 213 = .ok (.iconst 0, 1) := by decide +kernel
theorem dL_act_214 : decode cL_act 214 = .ok (.bastore, 1) := by decide +kernel
theorem dL_act_215 : decode cL_act 215 = .ok (.aload_n 0, 1) := by decide +kernel
theorem dL_act_216 : decode cL_act 216 = .ok (.iload_n 3, 1) := by decide +kernel
theorem dL_act_217 : decode cL_act 217 = .ok (.iload 4, 2) := by decide +kernel
theorem dL_act_219 : decode cL_act 219 = .ok (.invokevirtual 43, 3) := by decide +kernel
theorem dL_act_222 : decode cL_act 222 = .ok (.aload_n 1, 1) := by decide +kernel
theorem dL_act_223 : decode cL_act 223 = .ok (.getfield 39, 3) := by decide +kernel
theorem dL_act_226 : decode cL_act 226 = .ok (.iload_n 3, 1) := by decide +kernel
theorem dL_act_227 : decode cL_act 227 = .ok (.aaload, 1) := by decide +kernel
theorem dL_act_228 : decode cL_act 228 = .ok (.iload 4, 2) := by decide +kernel
theorem dL_act_230 : decode cL_act 230 = .ok (.baload, 1) := by decide +kernel
theorem dL_act_231 : decode cL_act 231 = .ok (.if_icmp .ne 12, 3) := by decide +kernel
theorem dL_act_234 : decode cL_act 234 = .ok (.iload 6, 2) := by decide +kernel
