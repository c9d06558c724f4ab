/-! rows of the law, by program -/
theorem dL_build_145 : decode cL_build 145 = .ok (.baload, 1) := by decide +kernel
theorem dL_build_146 : decode cL_build 146 = .ok (.ifCond .eq 6, 3) := by decide +kernel
theorem dL_build_149 : decode cL_build 149 = .ok (.goto 27, 3) := by decide +kernel
theorem dL_build_152 : decode cL_build 152 = .ok (.aload_n 2, 1) := by decide +kernel
theorem dL_build_153 : decode cL_build 153 = .ok (.getfield 39, 3) := by decide +kernel
theorem dL_build_156 : decode cL_build 156 = .ok (.iload 5, 2) := by decide +kernel
theorem dL_build_158 : decode cL_build 158 = .ok (.aaload, 1) := by decide +kernel
theorem dL_build_159 : decode cL_build 159 = .ok (.iload 6, 2) := by decide +kernel
theorem dL_build_161 : decode cL_build 161 = .ok (.iconst 1, 1) := by decide +kernel
theorem dL_build_162 : decode cL_build 162 = .ok (.bastore, 1) := by decide +kernel
theorem dL_build_163 : decode cL_build 163 = .ok (.aload_n 0, 1) := by decide +kernel
theorem dL_build_164 : decode cL_build 164 = .ok (.iload 5, 2) := by decide +kernel
theorem dL_build_166 : decode cL_build 166 = .ok (.iload 6, 2) := by decide +kernel
theorem dL_build_168 : decode cL_build 168 = .ok (.invokevirtual 43, 3) := by decide +kernel
theorem dL_build_171 : decode cL_build 171 = .ok (.ifCond .ne 5, 3) := by decide +kernel
theorem dL_build_174 : decode cL_build 174 = .ok (.aconst_null, 1) := by decide +kernel
theorem dL_build_175 : decode cL_build 175 = .ok (.areturn, 1) := by decide +kernel
theorem dL_build_176 : decode cL_build 176 = .ok (.iinc 4 1, 3) := by decide +kernel
theorem dL_build_179 : decode cL_build 179 = .ok (.goto (-101), 3) := by decide +kernel
theorem dL_build_182 : decode cL_build 182 = .ok (.iconst 1, 1) := by decide +kernel
theorem dL_build_183 : decode cL_build 183 = .ok (.istore 4, 2) := by decide +kernel
theorem dL_build_185 : decode cL_build 185 = .ok (.iload 4, 2) := by decide +kernel
theorem dL_build_187 : decode cL_build 187 = .ok (.bipush 7, 2) := by decide +kernel
theorem dL_build_189 : decode cL_build 189 = .ok (.if_icmp .ge 58, 3) := by decide +kernel
theorem dL_build_192 : decode cL_build 192 = .ok (.aload_n 1, 1) := by decide +kernel
theorem dL_build_193 : decode cL_build 193 = .ok (.iconst 1, 1) := by decide +kernel
theorem dL_build_194 : decode cL_build 194 = .ok (.iload 4, 2) := by decide +kernel
theorem dL_build_196 : decode cL_build 196 = .ok (.iadd, 1) := by decide +kernel
theorem dL_build_197 : decode cL_build 197 = .ok (.invokestatic 89, 3) := by decide +kernel
theorem dL_build_200 : decode cL_build 200 = .ok (.iconst 3, 1) := by decide +kernel
theorem dL_build_201 : decode cL_build 201 = .ok (.ishr, 1) := by decide +kernel
theorem dL_build_202 : decode cL_build 202 = .ok (.bipush 8, 2) := by decide +kernel
theorem dL_build_204 : decode cL_build 204 = .ok (.invokestatic 15, 3) := by decide +kernel
theorem dL_build_207 : decode cL_build 207 = .ok (.istore 5, 2) := by decide +kernel
theorem dL_build_209 : decode cL_build 209 = .ok (.iload 5, 2) := by decide +kernel
theorem dL_build_211 : decode cL_build 211 = .ok (.ifCond .ne 6, 3) := by decide +kernel
theorem dL_build_214 : decode cL_build 214 = .ok (.goto 27, 3) := by decide +kernel
theorem dL_build_217 : decode cL_build 217 = .ok (.aload_n 2, 1) := by decide +kernel
theorem dL_build_218 : decode cL_build 218 = .ok (.getfield 56, 3) := by decide +kernel
theorem dL_build_221 : decode cL_build 221 = .ok (.iload 4, 2) := by decide +kernel
theorem dL_build_223 : decode cL_build 223 = .ok (.iload 5, 2) := by decide +kernel
theorem dL_build_225 : decode cL_build 225 = .ok (.iastore, 1) := by decide +kernel
theorem dL_build_226 : decode cL_build 226 = .ok (.aload_n 0, 1) := by decide +kernel
theorem dL_build_227 : decode cL_build 227 = .ok (.iload 4, 2) := by decide +kernel
theorem dL_build_229 : decode cL_build 229 = .ok (.iload 5, 2) := by decide +kernel
theorem dL_build_231 : decode cL_build 231 = .ok (.invokevirtual 64, 3) := by decide +kernel
theorem dL_build_234 : decode cL_build 234 = .ok (.iload 5, 2) := by decide +kernel
theorem dL_build_236 : decode cL_build 236 = .ok (.if_icmp .eq 5, 3) := by decide +kernel
theorem dL_build_239 : decode cL_build 239 = .ok (.aconst_null, 1) := by decide +kernel
theorem dL_build_240 : decode cL_build 240 = .ok (.areturn, 1) := by decide +kernel
theorem dL_build_241 : decode cL_build 241 = .ok (.iinc 4 1, 3) := by decide +kernel
theorem dL_build_244 : decode cL_build 244 = .ok (.goto (-59), 3) := by decide +kernel
theorem dL_build_247 : decode cL_build 247 = .ok (.aload_n 2, 1) := by decide +kernel
theorem dL_build_248 : decode cL_build 248 = .ok (.areturn, 1) := by decide +kernel
set_option maxRecDepth 20000 in
theorem ggL_goes_X3_column : GoodIn wsL_goes wsX3_column := goodIn_r _ [7, 8, 9, 10, 11, 158, 159, 160, 161, 162, 163, 164, 165] (by decide +kernel) (by decide +kernel)
set_option maxRecDepth 20000 in
theorem gL_goes_X3_column : GoodIn wsL_goes (wsV RL 113 RX3 yX3_column wsX3_column) := goodIn_app (goodIn_of _ (by decide +kernel)) ggL_goes_X3_column
set_option maxRecDepth 20000 in
theorem ggL_goes_X3_row : GoodIn wsL_goes wsX3_row := goodIn_r _ [15, 8, 16, 10, 17, 158, 159, 160, 161, 162, 163, 164, 165] (by decide +kernel) (by decide +kernel)
set_option maxRecDepth 20000 in
theorem gL_goes_X3_row : GoodIn wsL_goes (wsV RL 116 RX3 yX3_row wsX3_row) := goodIn_app (goodIn_of _ (by decide +kernel)) ggL_goes_X3_row
set_option maxRecDepth 20000 in
theorem ggL_goes_X3_faceTo : GoodIn wsL_goes wsX3_faceTo := goodIn_ca (goodIn_r _ [21, 22, 23, 24, 6, 25, 26, 27, 28, 29, 30, 31, 32, 33, 34, 35, 36, 37, 38, 39, 40, 41, 42, 158, 159, 160, 161, 162, 163, 164, 165] (by decide +kernel) (by decide +kernel)) (goodIn_sub (fun _ h => List.mem_cons_of_mem _ (List.mem_append_left _ (List.mem_append_right _ h))) (by decide +kernel))
set_option maxRecDepth 20000 in
theorem gL_goes_X3_faceTo : GoodIn wsL_goes (wsV RL 128 RX3 yX3_faceTo wsX3_faceTo) := goodIn_app (goodIn_of _ (by decide +kernel)) ggL_goes_X3_faceTo
set_option maxRecDepth 20000 in
theorem ggL_goes_X3_top : GoodIn wsL_goes wsX3_top := goodIn_r _ [46, 22, 38, 29, 39, 158, 159, 160, 161, 162, 163, 164, 165] (by decide +kernel) (by decide +kernel)
set_option maxRecDepth 20000 in
theorem gL_goes_X3_top : GoodIn wsL_goes (wsV RL 122 RX3 yX3_top wsX3_top) := goodIn_app (goodIn_of _ (by decide +kernel)) ggL_goes_X3_top
set_option maxRecDepth 20000 in
theorem ggL_goes_X3_colourOf : GoodIn wsL_goes wsX3_colourOf := goodIn_ca (goodIn_r _ [50, 51, 52, 53, 6, 54, 26, 27, 55, 56, 57, 158, 159, 160, 161, 162, 163, 164, 165] (by decide +kernel) (by decide +kernel)) (goodIn_sub (fun _ h => List.mem_cons_of_mem _ (List.mem_append_left _ (List.mem_append_right _ h))) (by decide +kernel))
set_option maxRecDepth 20000 in
theorem gL_goes_X3_colourOf : GoodIn wsL_goes (wsV RL 184 RX3 yX3_colourOf wsX3_colourOf) := goodIn_app (goodIn_of _ (by decide +kernel)) ggL_goes_X3_colourOf
set_option maxRecDepth 20000 in
theorem ggL_goes_X3_paintOf : GoodIn wsL_goes wsX3_paintOf := goodIn_ca (goodIn_r _ [61, 62, 52, 53, 6, 54, 26, 27, 55, 56, 57, 158, 159, 160, 161, 162, 163, 164, 165] (by decide +kernel) (by decide +kernel)) (goodIn_sub (fun _ h => List.mem_cons_of_mem _ (List.mem_append_left _ (List.mem_append_right _ h))) (by decide +kernel))
set_option maxRecDepth 20000 in
theorem gL_goes_X3_paintOf : GoodIn wsL_goes (wsV RL 177 RX3 yX3_paintOf wsX3_paintOf) := goodIn_app (goodIn_of _ (by decide +kernel)) ggL_goes_X3_paintOf
set_option maxRecDepth 20000 in
theorem ggL_goes_X3_roll : GoodIn wsL_goes wsX3_roll := goodIn_ca (goodIn_ca (goodIn_r _ [66, 67, 68, 23, 24, 6, 25, 26, 27, 69, 70, 71, 72, 73, 8, 22, 74, 75, 10, 76, 77, 78, 9, 11, 79, 16, 17, 80, 81, 82, 83, 84, 85, 86, 87, 88, 89, 90, 91, 92, 93, 94, 29, 95, 37, 38, 39, 31, 32, 33, 96, 97, 98, 34, 35, 36, 40, 41, 42, 99, 100, 101, 102, 62, 51, 103, 104, 105, 106, 107, 108, 44, 45, 46, 55, 56, 57, 109, 110, 111, 112, 158, 159, 160, 161, 162, 163, 164, 165, 166, 167, 168, 169] (by decide +kernel) (by decide +kernel)) (goodIn_sub (fun _ h => List.mem_cons_of_mem _ (List.mem_append_right _ h)) (by decide +kernel))) (goodIn_sub (fun _ h => List.mem_cons_of_mem _ (List.mem_append_left _ (List.mem_append_right _ h))) (by decide +kernel))
set_option maxRecDepth 20000 in
theorem gL_goes_X3_roll : GoodIn wsL_goes (wsV RL 83 RX3 yX3_roll wsX3_roll) := goodIn_app (goodIn_of _ (by decide +kernel)) ggL_goes_X3_roll
set_option maxRecDepth 20000 in
theorem ggL_goes_X4_roll : GoodIn wsL_goes wsX4_roll := goodIn_r _ [117, 118, 119, 120, 121, 122, 123, 124, 125, 126, 127, 128, 116, 129, 130, 131, 132, 133, 134, 135, 136, 137, 138, 139, 140, 141, 142, 143, 144, 145, 170, 171, 172, 173, 174, 175, 176, 177, 178, 179, 180] (by decide +kernel) (by decide +kernel)
set_option maxRecDepth 20000 in
theorem gL_goes_X4_roll : GoodIn wsL_goes (wsV RL 76 RX4 yX4_roll wsX4_roll) := goodIn_app (goodIn_of _ (by decide +kernel)) ggL_goes_X4_roll
set_option maxRecDepth 20000 in
theorem ggL_goes_X3_bottom : GoodIn wsL_goes wsX3_bottom := goodIn_r _ [107, 108, 44, 45, 6, 46, 22, 38, 29, 39, 158, 159, 160, 161, 162, 163, 164, 165] (by decide +kernel) (by decide +kernel)
set_option maxRecDepth 20000 in
theorem gL_goes_X3_bottom : GoodIn wsL_goes (wsV RL 125 RX3 yX3_bottom wsX3_bottom) := goodIn_app (goodIn_of _ (by decide +kernel)) ggL_goes_X3_bottom
set_option maxRecDepth 20000 in
theorem ggL_goes_X3_printAt : GoodIn wsL_goes wsX3_printAt := goodIn_ca (goodIn_r _ [150, 73, 151, 152, 153, 6, 154, 26, 27, 86, 10, 87, 88, 89, 90, 155, 156, 157, 112, 85, 91, 92, 93, 158, 159, 160, 161, 162, 163, 164, 165, 166, 167, 168, 169] (by decide +kernel) (by decide +kernel)) (goodIn_sub (fun _ h => List.mem_cons_of_mem _ (List.mem_append_left _ (List.mem_append_right _ h))) (by decide +kernel))
set_option maxRecDepth 20000 in
theorem gL_goes_X3_printAt : GoodIn wsL_goes (wsV RL 187 RX3 yX3_printAt wsX3_printAt) := goodIn_app (goodIn_of _ (by decide +kernel)) ggL_goes_X3_printAt
theorem dL_goes_0 : decode cL_goes 0 = .ok (.aload_n 0, 1) := by decide +kernel
theorem dL_goes_1 : decode cL_goes 1 = .ok (.invokevirtual 113, 3) := by decide +kernel
theorem dL_goes_4 : decode cL_goes 4 = .ok (.istore_n 3, 1) := by decide +kernel
theorem dL_goes_5 : decode cL_goes 5 = .ok (.aload_n 0, 1) := by decide +kernel
theorem dL_goes_6 : decode cL_goes 6 = .ok (.invokevirtual 116, 3) := by decide +kernel
theorem dL_goes_9 : decode cL_goes 9 = .ok (.istore 4, 2) := by decide +kernel
theorem dL_goes_11 : decode cL_goes 11 = .ok (.aload_n 0, 1) := by decide +kernel
theorem dL_goes_12 : decode cL_goes 12 = .ok (.iload_n 2, 1) := by decide +kernel
theorem dL_goes_13 : decode cL_goes 13 = .ok (.invokevirtual 128, 3) := by decide +kernel
theorem dL_goes_16 : decode cL_goes 16 = .ok (.istore 5, 2) := by decide +kernel
theorem dL_goes_18 : decode cL_goes 18 = .ok (.aload_n 0, 1) := by decide +kernel
theorem dL_goes_19 : decode cL_goes 19 = .ok (.invokevirtual 122, 3) := by decide +kernel
theorem dL_goes_22 : decode cL_goes 22 = .ok (.istore 6, 2) := by decide +kernel
theorem dL_goes_24 : decode cL_goes 24 = .ok (.aload_n 0, 1) := by decide +kernel
theorem dL_goes_25 : decode cL_goes 25 = .ok (.iload 5, 2) := by decide +kernel
theorem dL_goes_27 : decode cL_goes 27 = .ok (.invokevirtual 184, 3) := by decide +kernel
theorem dL_goes_30 : decode cL_goes 30 = .ok (.istore 7, 2) := by decide +kernel
theorem dL_goes_32 : decode cL_goes 32 = .ok (.aload_n 0, 1) := by decide +kernel
theorem dL_goes_33 : decode cL_goes 33 = .ok (.iload 5, 2) := by decide +kernel
theorem dL_goes_35 : decode cL_goes 35 = .ok (.invokevirtual 177, 3) := by decide +kernel
theorem dL_goes_38 : decode cL_goes 38 = .ok (.ifCond .le 7, 3) := by decide +kernel
theorem dL_goes_41 : decode cL_goes 41 = .ok (.iconst 1, 1) := by decide +kernel
theorem dL_goes_42 : decode cL_goes 42 = .ok (.goto 4, 3) := by decide +kernel
theorem dL_goes_45 : decode cL_goes 45 = .ok (.iconst 0, 1) := by decide +kernel
theorem dL_goes_46 : decode cL_goes 46 = .ok (.istore 8, 2) := by decide +kernel
theorem dL_goes_48 : decode cL_goes 48 = .ok (.aload_n 0, 1) := by decide +kernel
theorem dL_goes_49 : decode cL_goes 49 = .ok (.iload_n 2, 1) := by decide +kernel
theorem dL_goes_50 : decode cL_goes 50 = .ok (.invokevirtual 83, 3) := by decide +kernel
theorem dL_goes_53 : decode cL_goes 53 = .ok (.iload 5, 2) := by decide +kernel
theorem dL_goes_55 : decode cL_goes 55 = .ok (.if_icmp .ne 59, 3) := by decide +kernel
theorem dL_goes_58 : decode cL_goes 58 = .ok (.aload_n 1, 1) := by decide +kernel
theorem dL_goes_59 : decode cL_goes 59 = .ok (.iload_n 2, 1) := by decide +kernel
theorem dL_goes_60 : decode cL_goes 60 = .ok (.invokevirtual 76, 3) := by decide +kernel
theorem dL_goes_63 : decode cL_goes 63 = .ok (.ifCond .eq 51, 3) := by decide +kernel
theorem dL_goes_66 : decode cL_goes 66 = .ok (.aload_n 0, 1) := by decide +kernel
theorem dL_goes_67 : decode cL_goes 67 = .ok (.invokevirtual 113, 3) := by decide +kernel
theorem dL_goes_70 : decode cL_goes 70 = .ok (.iload_n 3, 1) := by decide +kernel
theorem dL_goes_71 : decode cL_goes 71 = .ok (.getstatic 161, 3) := by decide +kernel
theorem dL_goes_74 : decode cL_goes 74 = .ok (.iload_n 2, 1) := by decide +kernel
theorem dL_goes_75 : decode cL_goes 75 = .ok (.iaload, 1) := by decide +kernel
theorem dL_goes_76 : decode cL_goes 76 = .ok (.iadd, 1) := by decide +kernel
theorem dL_goes_77 : decode cL_goes 77 = .ok (.if_icmp .ne 37, 3) := by decide +kernel
theorem dL_goes_80 : decode cL_goes 80 = .ok (.aload_n 0, 1) := by decide +kernel
theorem dL_goes_81 : decode cL_goes 81 = .ok (.invokevirtual 116, 3) := by decide +kernel
theorem dL_goes_84 : decode cL_goes 84 = .ok (.iload 4, 2) := by decide +kernel
theorem dL_goes_86 : decode cL_goes 86 = .ok (.getstatic 164, 3) := by decide +kernel
theorem dL_goes_89 : decode cL_goes 89 = .ok (.iload_n 2, 1) := by decide +kernel
theorem dL_goes_90 : decode cL_goes 90 = .ok (.iaload, 1) := by decide +kernel
theorem dL_goes_91 : decode cL_goes 91 = .ok (.iadd, 1) := by decide +kernel
theorem dL_goes_92 : decode cL_goes 92 = .ok (.if_icmp .ne 22, 3) := by decide +kernel
theorem dL_goes_95 : decode cL_goes 95 = .ok (.aload_n 0, 1) := by decide +kernel
theorem dL_goes_96 : decode cL_goes 96 = .ok (.invokevirtual 125, 3) := by decide +kernel
theorem dL_goes_99 : decode cL_goes 99 = .ok (.iload 5, 2) := by decide +kernel
theorem dL_goes_101 : decode cL_goes 101 = .ok (.if_icmp .ne 13, 3) := by decide +kernel
theorem dL_goes_104 : decode cL_goes 104 = .ok (.aload_n 0, 1) := by decide +kernel
theorem dL_goes_105 : decode cL_goes 105 = .ok (.iload_n 2, 1) := by decide +kernel
theorem dL_goes_106 : decode cL_goes 106 = .ok (.invokevirtual 128, 3) := by decide +kernel
theorem dL_goes_109 : decode cL_goes 109 = .ok (.iload 6, 2) := by decide +kernel
theorem dL_goes_111 : decode cL_goes 111 = .ok (.if_icmp .eq 5, 3) := by decide +kernel
theorem dL_goes_114 : decode cL_goes 114 = .ok (.iconst 0, 1) := by decide +kernel
theorem dL_goes_115 : decode cL_goes 115 = .ok (.ireturn, 1) := by decide +kernel
theorem dL_goes_116 : decode cL_goes 116 = .ok (.iload 8, 2) := by decide +kernel
theorem dL_goes_118 : decode cL_goes 118 = .ok (.ifCond .eq 20, 3) := by decide +kernel
theorem dL_goes_121 : decode cL_goes 121 = .ok (.aload_n 0, 1) := by decide +kernel
theorem dL_goes_122 : decode cL_goes 122 = .ok (.aload_n 0, 1) := by decide +kernel
theorem dL_goes_123 : decode cL_goes 123 = .ok (.invokevirtual 113, 3) := by decide +kernel
theorem dL_goes_126 : decode cL_goes 126 = .ok (.aload_n 0, 1) := by decide +kernel
theorem dL_goes_127 : decode cL_goes 127 = .ok (.invokevirtual 116, 3) := by decide +kernel
theorem dL_goes_130 : decode cL_goes 130 = .ok (.invokevirtual 187, 3) := by decide +kernel
theorem dL_goes_133 : decode cL_goes 133 = .ok (.iload 7, 2) := by decide +kernel
theorem dL_goes_135 : decode cL_goes 135 = .ok (.if_icmp .ne 7, 3) := by decide +kernel
theorem dL_goes_138 : decode cL_goes 138 = .ok (.iconst 1, 1) := by decide +kernel
theorem dL_goes_139 : decode cL_goes 139 = .ok (.goto 4, 3) := by decide +kernel
theorem dL_goes_142 : decode cL_goes 142 = .ok (.iconst 0, 1) := by decide +kernel
theorem dL_goes_143 : decode cL_goes 143 = .ok (.ireturn, 1) := by decide +kernel
