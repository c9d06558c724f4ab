set_option maxRecDepth 20000 in
theorem lin_wsL_law0_r1 : ∀ w ∈ wsL_law0_r1, w ∈ lw_tbl := fun w h => (goodIn_p wsL_law0_r1 [566, 44, 47] (by decide +kernel) (by decide +kernel) w h).1
set_option maxRecDepth 20000 in
theorem lin_wsL_law0_r2 : ∀ w ∈ wsL_law0_r2, w ∈ lw_tbl := fun w h => (goodIn_p wsL_law0_r2 [52, 75, 91, 95] (by decide +kernel) (by decide +kernel) w h).1
set_option maxRecDepth 20000 in
theorem lin_wsL_law0_r3 : ∀ w ∈ wsL_law0_r3, w ∈ lw_tbl := fun w h => (goodIn_p wsL_law0_r3 [612, 617] (by decide +kernel) (by decide +kernel) w h).1
set_option maxRecDepth 20000 in
theorem lin_wsL_law0_r4 : ∀ w ∈ wsL_law0_r4, w ∈ lw_tbl := fun w h => (goodIn_p wsL_law0_r4 [502, 498, 511, 519] (by decide +kernel) (by decide +kernel) w h).1
set_option maxRecDepth 20000 in
theorem lin_wsL_law0_r5 : ∀ w ∈ wsL_law0_r5, w ∈ lw_tbl := fun w h => (goodIn_p wsL_law0_r5 [523, 526, 531, 253, 257, 266] (by decide +kernel) (by decide +kernel) w h).1
set_option maxRecDepth 20000 in
theorem lin_wsL_law0_r6_a : ∀ w ∈ ([Cond.selects RX0 yX0_turnOver yX0_turnOver, Cond.code yX0_turnOver cX0_turnOver 2 (some .boolean), Cond.methodLink RL 64 yX3_addPaint, Cond.instanceMethod yX3_addPaint, Cond.selects RX3 yX3_addPaint yX3_addPaint, Cond.code yX3_addPaint cX3_addPaint 3 (some .int), Cond.methodLink RX3 72 Lib.Math.min.name, Cond.static Lib.Math.min.name, Cond.code Lib.Math.min.name Lib.Math.min.code 2 (some .int), Cond.methodLink RX3 64 yX3_checkFace, Cond.static yX3_checkFace, Cond.code yX3_checkFace cX3_checkFace 1 none, Cond.methodLink RX3 219 yX3_isFace, Cond.static yX3_isFace, Cond.code yX3_isFace cX3_isFace 1 (some .boolean), Cond.methodLink RL 98 yL_act, Cond.static yL_act] : List Cond), w ∈ lw_tbl := fun w h => (goodIn_p ([Cond.selects RX0 yX0_turnOver yX0_turnOver, Cond.code yX0_turnOver cX0_turnOver 2 (some .boolean), Cond.methodLink RL 64 yX3_addPaint, Cond.instanceMethod yX3_addPaint, Cond.selects RX3 yX3_addPaint yX3_addPaint, Cond.code yX3_addPaint cX3_addPaint 3 (some .int), Cond.methodLink RX3 72 Lib.Math.min.name, Cond.static Lib.Math.min.name, Cond.code Lib.Math.min.name Lib.Math.min.code 2 (some .int), Cond.methodLink RX3 64 yX3_checkFace, Cond.static yX3_checkFace, Cond.code yX3_checkFace cX3_checkFace 1 none, Cond.methodLink RX3 219 yX3_isFace, Cond.static yX3_isFace, Cond.code yX3_isFace cX3_isFace 1 (some .boolean), Cond.methodLink RL 98 yL_act, Cond.static yL_act] : List Cond) [551, 561, 365, 241, 244] (by decide +kernel) (by decide +kernel) w h).1
set_option maxRecDepth 20000 in
theorem lin_wsL_law0_r6_b : ∀ w ∈ ([Cond.classLink RL 47 "java/lang/IllegalStateException", Cond.fieldLink RL 33 "PaintedDieLaw$Sim" "x" "I", Cond.fieldLink RL 36 "PaintedDieLaw$Sim" "y" "I", Cond.fieldLink RL 49 "PaintedDieLaw$Sim" "colour" "[I", Cond.methodLink RL 59 Lib.Math.min.name, Cond.fieldLink RL 85 "PaintedDieLaw$Sim" "die" "[I"] : List Cond), w ∈ lw_tbl := fun w h => (goodIn_p ([Cond.classLink RL 47 "java/lang/IllegalStateException", Cond.fieldLink RL 33 "PaintedDieLaw$Sim" "x" "I", Cond.fieldLink RL 36 "PaintedDieLaw$Sim" "y" "I", Cond.fieldLink RL 49 "PaintedDieLaw$Sim" "colour" "[I", Cond.methodLink RL 59 Lib.Math.min.name, Cond.fieldLink RL 85 "PaintedDieLaw$Sim" "die" "[I"] : List Cond) [] (by decide +kernel) (by decide +kernel) w h).1
set_option maxRecDepth 20000 in
theorem lin_wsL_law0_r6_c : Cond.codeWith yL_act cL_act 9 (some .boolean) [(215, 244, 245, 47), (435, 457, 458, 47), (568, 593, 594, 47)] ∈ lw_tbl := List.mem_of_getElem? (i := 506) rfl
theorem lin_wsL_law0_r6 : ∀ w ∈ wsL_law0_r6, w ∈ lw_tbl := fun w h => (List.mem_append.mp (show w ∈ ([Cond.selects RX0 yX0_turnOver yX0_turnOver, Cond.code yX0_turnOver cX0_turnOver 2 (some .boolean), Cond.methodLink RL 64 yX3_addPaint, Cond.instanceMethod yX3_addPaint, Cond.selects RX3 yX3_addPaint yX3_addPaint, Cond.code yX3_addPaint cX3_addPaint 3 (some .int), Cond.methodLink RX3 72 Lib.Math.min.name, Cond.static Lib.Math.min.name, Cond.code Lib.Math.min.name Lib.Math.min.code 2 (some .int), Cond.methodLink RX3 64 yX3_checkFace, Cond.static yX3_checkFace, Cond.code yX3_checkFace cX3_checkFace 1 none, Cond.methodLink RX3 219 yX3_isFace, Cond.static yX3_isFace, Cond.code yX3_isFace cX3_isFace 1 (some .boolean), Cond.methodLink RL 98 yL_act, Cond.static yL_act] : List Cond) ++ (Cond.codeWith yL_act cL_act 9 (some .boolean) [(215, 244, 245, 47), (435, 457, 458, 47), (568, 593, 594, 47)] :: ([Cond.classLink RL 47 "java/lang/IllegalStateException", Cond.fieldLink RL 33 "PaintedDieLaw$Sim" "x" "I", Cond.fieldLink RL 36 "PaintedDieLaw$Sim" "y" "I", Cond.fieldLink RL 49 "PaintedDieLaw$Sim" "colour" "[I", Cond.methodLink RL 59 Lib.Math.min.name, Cond.fieldLink RL 85 "PaintedDieLaw$Sim" "die" "[I"] : List Cond)) from h)).elim (fun h => lin_wsL_law0_r6_a w h) (fun h => (List.mem_cons.mp h).elim (fun e => e ▸ lin_wsL_law0_r6_c) (fun h => lin_wsL_law0_r6_b w h))
set_option maxRecDepth 20000 in
theorem lin_wsL_law0_r7 : ∀ w ∈ wsL_law0_r7, w ∈ lw_tbl := fun w h => (goodIn_p wsL_law0_r7 [555, 571, 262, 124, 127] (by decide +kernel) (by decide +kernel) w h).1
set_option maxRecDepth 20000 in
theorem lin_wsL_law0_r8 : ∀ w ∈ wsL_law0_r8, w ∈ lw_tbl := fun w h => (goodIn_p wsL_law0_r8 [131, 134, 577, 468, 476, 580] (by decide +kernel) (by decide +kernel) w h).1
set_option maxRecDepth 20000 in
theorem lin_wsL_law0_r9 : ∀ w ∈ wsL_law0_r9, w ∈ lw_tbl := fun w h => (goodIn_p wsL_law0_r9 [591, 153, 596, 274, 345, 141] (by decide +kernel) (by decide +kernel) w h).1
set_option maxRecDepth 20000 in
theorem lin_wsL_law0_r10 : ∀ w ∈ wsL_law0_r10, w ∈ lw_tbl := fun w h => (goodIn_p wsL_law0_r10 [227, 348, 230, 234, 600, 145, 138] (by decide +kernel) (by decide +kernel) w h).1
set_option maxRecDepth 20000 in
theorem lin_wsL_law0_r11 : ∀ w ∈ wsL_law0_r11, w ∈ lw_tbl := fun w h => (goodIn_p wsL_law0_r11 [604, 608, 429, 281, 434, 285] (by decide +kernel) (by decide +kernel) w h).1
set_option maxRecDepth 20000 in
theorem lin_wsL_law0_r12 : ∀ w ∈ wsL_law0_r12, w ∈ lw_tbl := fun w h => (goodIn_p wsL_law0_r12 [289, 293, 297, 301, 224, 446, 322] (by decide +kernel) (by decide +kernel) w h).1
set_option maxRecDepth 20000 in
theorem lin_wsL_law0_r13 : ∀ w ∈ wsL_law0_r13, w ∈ lw_tbl := fun w h => (goodIn_p wsL_law0_r13 [326, 329, 333, 337, 341, 314] (by decide +kernel) (by decide +kernel) w h).1
set_option maxRecDepth 20000 in
theorem lin_wsL_law0_r14 : ∀ w ∈ wsL_law0_r14, w ∈ lw_tbl := fun w h => (goodIn_p wsL_law0_r14 [354, 358, 362, 393, 249] (by decide +kernel) (by decide +kernel) w h).1
set_option maxRecDepth 20000 in
theorem lin_wsL_law0_r15 : ∀ w ∈ wsL_law0_r15, w ∈ lw_tbl := fun w h => (goodIn_p wsL_law0_r15 [150, 305, 310, 318, 405] (by decide +kernel) (by decide +kernel) w h).1
set_option maxRecDepth 20000 in
theorem lin_wsL_law0_r16 : ∀ w ∈ wsL_law0_r16, w ∈ lw_tbl := fun w h => (goodIn_p wsL_law0_r16 [425, 401, 389, 397, 270, 369] (by decide +kernel) (by decide +kernel) w h).1
set_option maxRecDepth 20000 in
theorem lin_wsL_law0_r17 : ∀ w ∈ wsL_law0_r17, w ∈ lw_tbl := fun w h => (goodIn_p wsL_law0_r17 [374, 378, 382, 663, 460, 238, 456] (by decide +kernel) (by decide +kernel) w h).1
set_option maxRecDepth 20000 in
theorem lin_wsL_law0_r18 : ∀ w ∈ wsL_law0_r18, w ∈ lw_tbl := fun w h => (goodIn_p wsL_law0_r18 [451, 489] (by decide +kernel) (by decide +kernel) w h).1
set_option maxRecDepth 20000 in
theorem lin_wsL_law0_r19 : ∀ w ∈ wsL_law0_r19, w ∈ lw_tbl := fun w h => (goodIn_p wsL_law0_r19 [493] (by decide +kernel) (by decide +kernel) w h).1
theorem lin_wsX30 : ∀ w ∈ wsX30, w ∈ lw_tbl := by decide +kernel
theorem lin_wsX00 : ∀ w ∈ wsX00, w ∈ lw_tbl := by decide +kernel
theorem lin_wsX10 : ∀ w ∈ wsX10, w ∈ lw_tbl := by decide +kernel
theorem lin_wsX40 : ∀ w ∈ wsX40, w ∈ lw_tbl := by decide +kernel
theorem wsL_law_in0 : ∀ w ∈ wsL_law0, w ∈ lw_tbl := fun w h => (List.mem_append.mp h).elim (fun h => (List.mem_append.mp h).elim (fun h => (List.mem_append.mp h).elim (fun h => (List.mem_append.mp h).elim (fun h => (List.mem_append.mp h).elim (fun h => (List.mem_append.mp h).elim (fun h => lin_wsL_law0_r1 w h) (fun h => (List.mem_append.mp h).elim (fun h => lin_wsL_law0_r2 w h) (fun h => (List.mem_append.mp h).elim (fun h => lin_wsL_law0_r3 w h) (fun h => (List.mem_append.mp h).elim (fun h => lin_wsL_law0_r4 w h) (fun h => (List.mem_append.mp h).elim (fun h => lin_wsL_law0_r5 w h) (fun h => (List.mem_append.mp h).elim (fun h => lin_wsL_law0_r6 w h) (fun h => (List.mem_append.mp h).elim (fun h => lin_wsL_law0_r7 w h) (fun h => (List.mem_append.mp h).elim (fun h => lin_wsL_law0_r8 w h) (fun h => (List.mem_append.mp h).elim (fun h => lin_wsL_law0_r9 w h) (fun h => (List.mem_append.mp h).elim (fun h => lin_wsL_law0_r10 w h) (fun h => (List.mem_append.mp h).elim (fun h => lin_wsL_law0_r11 w h) (fun h => (List.mem_append.mp h).elim (fun h => lin_wsL_law0_r12 w h) (fun h => (List.mem_append.mp h).elim (fun h => lin_wsL_law0_r13 w h) (fun h => (List.mem_append.mp h).elim (fun h => lin_wsL_law0_r14 w h) (fun h => (List.mem_append.mp h).elim (fun h => lin_wsL_law0_r15 w h) (fun h => (List.mem_append.mp h).elim (fun h => lin_wsL_law0_r16 w h) (fun h => (List.mem_append.mp h).elim (fun h => lin_wsL_law0_r17 w h) (fun h => (List.mem_append.mp h).elim (fun h => lin_wsL_law0_r18 w h) (fun h => lin_wsL_law0_r19 w h))))))))))))))))))) (fun h => lin_wsX30 w h)) (fun h => lin_wsX00 w h)) (fun h => lin_wsX10 w h)) (fun h => lin_wsX40 w h)) (fun h => nomatch h)
theorem wsL_law_x0 : ∀ w ∈ (vx_atS RX3 42 "java/lang/IllegalArgumentException" ["java/lang/RuntimeException", "java/lang/Exception"]).filter goodWord, w ∈ lw_tbl := by decide +kernel
theorem wsL_law_x1 : ∀ w ∈ (vx_atS RX3 60 "java/lang/IllegalStateException" ["java/lang/RuntimeException", "java/lang/Exception"]).filter goodWord, w ∈ lw_tbl := by decide +kernel
theorem wsL_law_x2 : ∀ w ∈ (vx_atS RX3 152 "java/lang/IndexOutOfBoundsException" ["java/lang/RuntimeException", "java/lang/Exception"]).filter goodWord, w ∈ lw_tbl := by decide +kernel
theorem wsL_law_in : ∀ w ∈ wsL_law, w ∈ lw_tbl := fun w h => (List.mem_append.mp h).elim (fun h => (List.mem_append.mp h).elim (fun h => (List.mem_append.mp h).elim (fun h => wsL_law_in0 w h) (fun h => wsL_law_x0 w h)) (fun h => wsL_law_x1 w h)) (fun h => wsL_law_x2 w h)
theorem inlX0 : ∀ w ∈ wsX00, w ∈ wsL_law := fun _ h => List.mem_append_left _ (List.mem_append_left _ (List.mem_append_left _ (List.mem_append_left _ (List.mem_append_left _ (List.mem_append_left _ (List.mem_append_right _ h))))))
theorem inX0 : ∀ w ∈ wsX00, w ∈ lw_tbl := fun w h => wsL_law_in w (inlX0 w h)
theorem inlX1 : ∀ w ∈ wsX10, w ∈ wsL_law := fun _ h => List.mem_append_left _ (List.mem_append_left _ (List.mem_append_left _ (List.mem_append_left _ (List.mem_append_left _ (List.mem_append_right _ h)))))
theorem inX1 : ∀ w ∈ wsX10, w ∈ lw_tbl := fun w h => wsL_law_in w (inlX1 w h)
theorem inX2 : ∀ w ∈ wsX20, w ∈ lw_tbl := by decide +kernel
theorem inlX3 : ∀ w ∈ wsX30, w ∈ wsL_law := fun _ h => List.mem_append_left _ (List.mem_append_left _ (List.mem_append_left _ (List.mem_append_left _ (List.mem_append_left _ (List.mem_append_left _ (List.mem_append_left _ (List.mem_append_right _ h)))))))
theorem inX3 : ∀ w ∈ wsX30, w ∈ lw_tbl := fun w h => wsL_law_in w (inlX3 w h)
theorem inlX4 : ∀ w ∈ wsX40, w ∈ wsL_law := fun _ h => List.mem_append_left _ (List.mem_append_left _ (List.mem_append_left _ (List.mem_append_left _ (List.mem_append_right _ h))))
theorem inX4 : ∀ w ∈ wsX40, w ∈ lw_tbl := fun w h => wsL_law_in w (inlX4 w h)
theorem inX5 : ∀ w ∈ wsX50, w ∈ lw_tbl := by decide +kernel
theorem inJx145de : ∀ w ∈ wsJx145de0, w ∈ lw_tbl := by decide +kernel
theorem inJx8e188 : ∀ w ∈ wsJx8e1880, w ∈ lw_tbl := by decide +kernel
theorem inJ9 : ∀ w ∈ wsJ90, w ∈ lw_tbl := by decide +kernel
theorem inJ0 : ∀ w ∈ wsJ00, w ∈ lw_tbl := by decide +kernel
theorem inJ7 : ∀ w ∈ wsJ70, w ∈ lw_tbl := by decide +kernel
