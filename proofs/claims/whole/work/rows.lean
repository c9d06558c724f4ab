section
-- ===== PART A: goes FIRST, ahead of the names: the tables' words, and 'selects' of the private methods out of them =====
/-- a private method of a class that the tables say can be made, by its rows of tables_1 -/
def lw_okq (q : MethodName × Nat) : Prop := (q.1.cls ≠ "java/lang/invoke/MethodHandle" ∧ q.1.cls ≠ "java/lang/invoke/VarHandle") ∧ Cond.instantiable q.1.cls q.2 ∈ tables_1 ∧ Cond.privateMethod q.1 ∈ tables_1 ∧ Cond.instanceMethod q.1 ∈ tables_1
theorem lw_p0 : lw_okq (⟨"PaintedDie", "startOn", "(II)V"⟩, 8) := ⟨⟨by decide +kernel, by decide +kernel⟩, List.mem_of_getElem? (i := 16) (by decide +kernel), List.mem_of_getElem? (i := 64) (by decide +kernel), List.mem_of_getElem? (i := 65) (by decide +kernel)⟩
theorem lw_p1 : lw_okq (⟨"PaintedDie$Board", "layOut", "(II)V"⟩, 4) := ⟨⟨by decide +kernel, by decide +kernel⟩, List.mem_of_getElem? (i := 24) (by decide +kernel), List.mem_of_getElem? (i := 68) (by decide +kernel), List.mem_of_getElem? (i := 69) (by decide +kernel)⟩
theorem lw_p2 : lw_okq (⟨"PaintedDie$Board", "countWalls", "()I"⟩, 4) := ⟨⟨by decide +kernel, by decide +kernel⟩, List.mem_of_getElem? (i := 24) (by decide +kernel), List.mem_of_getElem? (i := 139) (by decide +kernel), List.mem_of_getElem? (i := 140) (by decide +kernel)⟩
theorem lw_p3 : lw_okq (⟨"PaintedDie", "searchFromHere", "()V"⟩, 8) := ⟨⟨by decide +kernel, by decide +kernel⟩, List.mem_of_getElem? (i := 16) (by decide +kernel), List.mem_of_getElem? (i := 155) (by decide +kernel), List.mem_of_getElem? (i := 156) (by decide +kernel)⟩
theorem lw_p4 : lw_okq (⟨"PaintedDie$Search", "forget", "()V"⟩, 3) := ⟨⟨by decide +kernel, by decide +kernel⟩, List.mem_of_getElem? (i := 47) (by decide +kernel), List.mem_of_getElem? (i := 159) (by decide +kernel), List.mem_of_getElem? (i := 160) (by decide +kernel)⟩
theorem lw_p5 : lw_okq (⟨"PaintedDie$Search", "reach", "(III)V"⟩, 3) := ⟨⟨by decide +kernel, by decide +kernel⟩, List.mem_of_getElem? (i := 47) (by decide +kernel), List.mem_of_getElem? (i := 166) (by decide +kernel), List.mem_of_getElem? (i := 167) (by decide +kernel)⟩
theorem lw_p6 : lw_okq (⟨"PaintedDie$Search", "spread", "(LPaintedDie$Board;)V"⟩, 3) := ⟨⟨by decide +kernel, by decide +kernel⟩, List.mem_of_getElem? (i := 47) (by decide +kernel), List.mem_of_getElem? (i := 170) (by decide +kernel), List.mem_of_getElem? (i := 171) (by decide +kernel)⟩
theorem lw_p7 : lw_okq (⟨"PaintedDie$Search", "rollsAt", "(II)I"⟩, 3) := ⟨⟨by decide +kernel, by decide +kernel⟩, List.mem_of_getElem? (i := 47) (by decide +kernel), List.mem_of_getElem? (i := 174) (by decide +kernel), List.mem_of_getElem? (i := 175) (by decide +kernel)⟩
theorem lw_p8 : lw_okq (⟨"PaintedDie$Board", "nextCell", "(II)I"⟩, 4) := ⟨⟨by decide +kernel, by decide +kernel⟩, List.mem_of_getElem? (i := 24) (by decide +kernel), List.mem_of_getElem? (i := 178) (by decide +kernel), List.mem_of_getElem? (i := 179) (by decide +kernel)⟩
theorem lw_p9 : lw_okq (⟨"PaintedDie$Board", "isFree", "(II)Z"⟩, 4) := ⟨⟨by decide +kernel, by decide +kernel⟩, List.mem_of_getElem? (i := 24) (by decide +kernel), List.mem_of_getElem? (i := 184) (by decide +kernel), List.mem_of_getElem? (i := 185) (by decide +kernel)⟩
theorem lw_p10 : lw_okq (⟨"PaintedDie$Board", "has", "(II)Z"⟩, 4) := ⟨⟨by decide +kernel, by decide +kernel⟩, List.mem_of_getElem? (i := 24) (by decide +kernel), List.mem_of_getElem? (i := 188) (by decide +kernel), List.mem_of_getElem? (i := 189) (by decide +kernel)⟩
theorem lw_p11 : lw_okq (⟨"PaintedDie$Search", "fewestTo", "(I)I"⟩, 3) := ⟨⟨by decide +kernel, by decide +kernel⟩, List.mem_of_getElem? (i := 47) (by decide +kernel), List.mem_of_getElem? (i := 212) (by decide +kernel), List.mem_of_getElem? (i := 213) (by decide +kernel)⟩
theorem lw_p12 : lw_okq (⟨"PaintedDie$Search", "fewestWithTop", "(II)I"⟩, 3) := ⟨⟨by decide +kernel, by decide +kernel⟩, List.mem_of_getElem? (i := 47) (by decide +kernel), List.mem_of_getElem? (i := 216) (by decide +kernel), List.mem_of_getElem? (i := 217) (by decide +kernel)⟩
theorem lw_p13 : lw_okq (⟨"PaintedDie", "joinedWithCells", "(J)J"⟩, 8) := ⟨⟨by decide +kernel, by decide +kernel⟩, List.mem_of_getElem? (i := 16) (by decide +kernel), List.mem_of_getElem? (i := 256) (by decide +kernel), List.mem_of_getElem? (i := 257) (by decide +kernel)⟩
theorem lw_p14 : lw_okq (⟨"PaintedDie$Board", "printOn", "(II)I"⟩, 4) := ⟨⟨by decide +kernel, by decide +kernel⟩, List.mem_of_getElem? (i := 24) (by decide +kernel), List.mem_of_getElem? (i := 262) (by decide +kernel), List.mem_of_getElem? (i := 263) (by decide +kernel)⟩
theorem lw_p15 : lw_okq (⟨"PaintedDie$Search", "countTops", "(I)I"⟩, 3) := ⟨⟨by decide +kernel, by decide +kernel⟩, List.mem_of_getElem? (i := 47) (by decide +kernel), List.mem_of_getElem? (i := 266) (by decide +kernel), List.mem_of_getElem? (i := 267) (by decide +kernel)⟩
def lw_privs_1 : List (MethodName × Nat) := [(⟨"PaintedDie", "startOn", "(II)V"⟩, 8), (⟨"PaintedDie$Board", "layOut", "(II)V"⟩, 4), (⟨"PaintedDie$Board", "countWalls", "()I"⟩, 4), (⟨"PaintedDie", "searchFromHere", "()V"⟩, 8), (⟨"PaintedDie$Search", "forget", "()V"⟩, 3), (⟨"PaintedDie$Search", "reach", "(III)V"⟩, 3), (⟨"PaintedDie$Search", "spread", "(LPaintedDie$Board;)V"⟩, 3), (⟨"PaintedDie$Search", "rollsAt", "(II)I"⟩, 3), (⟨"PaintedDie$Board", "nextCell", "(II)I"⟩, 4), (⟨"PaintedDie$Board", "isFree", "(II)Z"⟩, 4), (⟨"PaintedDie$Board", "has", "(II)Z"⟩, 4), (⟨"PaintedDie$Search", "fewestTo", "(I)I"⟩, 3), (⟨"PaintedDie$Search", "fewestWithTop", "(II)I"⟩, 3), (⟨"PaintedDie", "joinedWithCells", "(J)J"⟩, 8), (⟨"PaintedDie$Board", "printOn", "(II)I"⟩, 4), (⟨"PaintedDie$Search", "countTops", "(I)I"⟩, 3)]
theorem lw_r1 : ∀ q ∈ lw_privs_1, lw_okq q := List.forall_mem_cons.mpr ⟨lw_p0, List.forall_mem_cons.mpr ⟨lw_p1, List.forall_mem_cons.mpr ⟨lw_p2, List.forall_mem_cons.mpr ⟨lw_p3, List.forall_mem_cons.mpr ⟨lw_p4, List.forall_mem_cons.mpr ⟨lw_p5, List.forall_mem_cons.mpr ⟨lw_p6, List.forall_mem_cons.mpr ⟨lw_p7, List.forall_mem_cons.mpr ⟨lw_p8, List.forall_mem_cons.mpr ⟨lw_p9, List.forall_mem_cons.mpr ⟨lw_p10, List.forall_mem_cons.mpr ⟨lw_p11, List.forall_mem_cons.mpr ⟨lw_p12, List.forall_mem_cons.mpr ⟨lw_p13, List.forall_mem_cons.mpr ⟨lw_p14, List.forall_mem_cons.mpr ⟨lw_p15, fun _ h => absurd h List.not_mem_nil⟩⟩⟩⟩⟩⟩⟩⟩⟩⟩⟩⟩⟩⟩⟩⟩
theorem lw_p16 : lw_okq (⟨"java/lang/Throwable", "fillInStackTrace", "(I)Ljava/lang/Throwable;"⟩, 6) := ⟨⟨by decide +kernel, by decide +kernel⟩, List.mem_of_getElem? (i := 319) (by decide +kernel), List.mem_of_getElem? (i := 317) (by decide +kernel), List.mem_of_getElem? (i := 318) (by decide +kernel)⟩
theorem lw_p17 : lw_okq (⟨"PaintedDie", "checkCell", "(II)V"⟩, 8) := ⟨⟨by decide +kernel, by decide +kernel⟩, List.mem_of_getElem? (i := 16) (by decide +kernel), List.mem_of_getElem? (i := 358) (by decide +kernel), List.mem_of_getElem? (i := 359) (by decide +kernel)⟩
theorem lw_p18 : lw_okq (⟨"PaintedDie$Board", "turnOver", "(I)Z"⟩, 4) := ⟨⟨by decide +kernel, by decide +kernel⟩, List.mem_of_getElem? (i := 24) (by decide +kernel), List.mem_of_getElem? (i := 395) (by decide +kernel), List.mem_of_getElem? (i := 396) (by decide +kernel)⟩
theorem lw_p19 : lw_okq (⟨"PaintedDie", "rollOnce", "(I)Z"⟩, 8) := ⟨⟨by decide +kernel, by decide +kernel⟩, List.mem_of_getElem? (i := 16) (by decide +kernel), List.mem_of_getElem? (i := 445) (by decide +kernel), List.mem_of_getElem? (i := 446) (by decide +kernel)⟩
theorem lw_p20 : lw_okq (⟨"PaintedDie", "printHere", "()V"⟩, 8) := ⟨⟨by decide +kernel, by decide +kernel⟩, List.mem_of_getElem? (i := 16) (by decide +kernel), List.mem_of_getElem? (i := 451) (by decide +kernel), List.mem_of_getElem? (i := 452) (by decide +kernel)⟩
theorem lw_p21 : lw_okq (⟨"PaintedDie$Board", "printOnto", "(II)V"⟩, 4) := ⟨⟨by decide +kernel, by decide +kernel⟩, List.mem_of_getElem? (i := 24) (by decide +kernel), List.mem_of_getElem? (i := 455) (by decide +kernel), List.mem_of_getElem? (i := 456) (by decide +kernel)⟩
theorem lw_p22 : lw_okq (⟨"PaintedDie$Board", "countPrints", "(I)I"⟩, 4) := ⟨⟨by decide +kernel, by decide +kernel⟩, List.mem_of_getElem? (i := 24) (by decide +kernel), List.mem_of_getElem? (i := 518) (by decide +kernel), List.mem_of_getElem? (i := 519) (by decide +kernel)⟩
theorem lw_p23 : lw_okq (⟨"PaintedDie", "searchBackFrom", "(II)V"⟩, 8) := ⟨⟨by decide +kernel, by decide +kernel⟩, List.mem_of_getElem? (i := 16) (by decide +kernel), List.mem_of_getElem? (i := 545) (by decide +kernel), List.mem_of_getElem? (i := 546) (by decide +kernel)⟩
theorem lw_p24 : lw_okq (⟨"PaintedDie$Board", "isFreeCell", "(I)Z"⟩, 4) := ⟨⟨by decide +kernel, by decide +kernel⟩, List.mem_of_getElem? (i := 24) (by decide +kernel), List.mem_of_getElem? (i := 549) (by decide +kernel), List.mem_of_getElem? (i := 550) (by decide +kernel)⟩
theorem lw_p25 : lw_okq (⟨"PaintedDie", "isShutIn", "()Z"⟩, 8) := ⟨⟨by decide +kernel, by decide +kernel⟩, List.mem_of_getElem? (i := 16) (by decide +kernel), List.mem_of_getElem? (i := 570) (by decide +kernel), List.mem_of_getElem? (i := 571) (by decide +kernel)⟩
theorem lw_p26 : lw_okq (⟨"PaintedDieModel", "take", "(II)V"⟩, 25) := ⟨⟨by decide +kernel, by decide +kernel⟩, List.mem_of_getElem? (i := 581) (by decide +kernel), List.mem_of_getElem? (i := 587) (by decide +kernel), List.mem_of_getElem? (i := 588) (by decide +kernel)⟩
theorem lw_p27 : lw_okq (⟨"PaintedDieModel", "turnAsAtFirst", "()V"⟩, 25) := ⟨⟨by decide +kernel, by decide +kernel⟩, List.mem_of_getElem? (i := 581) (by decide +kernel), List.mem_of_getElem? (i := 591) (by decide +kernel), List.mem_of_getElem? (i := 592) (by decide +kernel)⟩
theorem lw_p28 : lw_okq (⟨"PaintedDieModel", "no", "(I)I"⟩, 25) := ⟨⟨by decide +kernel, by decide +kernel⟩, List.mem_of_getElem? (i := 581) (by decide +kernel), List.mem_of_getElem? (i := 682) (by decide +kernel), List.mem_of_getElem? (i := 683) (by decide +kernel)⟩
theorem lw_p29 : lw_okq (⟨"PaintedDieModel", "isCell", "(II)Z"⟩, 25) := ⟨⟨by decide +kernel, by decide +kernel⟩, List.mem_of_getElem? (i := 581) (by decide +kernel), List.mem_of_getElem? (i := 690) (by decide +kernel), List.mem_of_getElem? (i := 691) (by decide +kernel)⟩
theorem lw_p30 : lw_okq (⟨"PaintedDieModel", "isNot", "(I)Z"⟩, 25) := ⟨⟨by decide +kernel, by decide +kernel⟩, List.mem_of_getElem? (i := 581) (by decide +kernel), List.mem_of_getElem? (i := 694) (by decide +kernel), List.mem_of_getElem? (i := 695) (by decide +kernel)⟩
theorem lw_p31 : lw_okq (⟨"PaintedDieModel", "rolled", "(I)Z"⟩, 25) := ⟨⟨by decide +kernel, by decide +kernel⟩, List.mem_of_getElem? (i := 581) (by decide +kernel), List.mem_of_getElem? (i := 722) (by decide +kernel), List.mem_of_getElem? (i := 723) (by decide +kernel)⟩
def lw_privs_2 : List (MethodName × Nat) := [(⟨"java/lang/Throwable", "fillInStackTrace", "(I)Ljava/lang/Throwable;"⟩, 6), (⟨"PaintedDie", "checkCell", "(II)V"⟩, 8), (⟨"PaintedDie$Board", "turnOver", "(I)Z"⟩, 4), (⟨"PaintedDie", "rollOnce", "(I)Z"⟩, 8), (⟨"PaintedDie", "printHere", "()V"⟩, 8), (⟨"PaintedDie$Board", "printOnto", "(II)V"⟩, 4), (⟨"PaintedDie$Board", "countPrints", "(I)I"⟩, 4), (⟨"PaintedDie", "searchBackFrom", "(II)V"⟩, 8), (⟨"PaintedDie$Board", "isFreeCell", "(I)Z"⟩, 4), (⟨"PaintedDie", "isShutIn", "()Z"⟩, 8), (⟨"PaintedDieModel", "take", "(II)V"⟩, 25), (⟨"PaintedDieModel", "turnAsAtFirst", "()V"⟩, 25), (⟨"PaintedDieModel", "no", "(I)I"⟩, 25), (⟨"PaintedDieModel", "isCell", "(II)Z"⟩, 25), (⟨"PaintedDieModel", "isNot", "(I)Z"⟩, 25), (⟨"PaintedDieModel", "rolled", "(I)Z"⟩, 25)]
theorem lw_r2 : ∀ q ∈ lw_privs_2, lw_okq q := List.forall_mem_cons.mpr ⟨lw_p16, List.forall_mem_cons.mpr ⟨lw_p17, List.forall_mem_cons.mpr ⟨lw_p18, List.forall_mem_cons.mpr ⟨lw_p19, List.forall_mem_cons.mpr ⟨lw_p20, List.forall_mem_cons.mpr ⟨lw_p21, List.forall_mem_cons.mpr ⟨lw_p22, List.forall_mem_cons.mpr ⟨lw_p23, List.forall_mem_cons.mpr ⟨lw_p24, List.forall_mem_cons.mpr ⟨lw_p25, List.forall_mem_cons.mpr ⟨lw_p26, List.forall_mem_cons.mpr ⟨lw_p27, List.forall_mem_cons.mpr ⟨lw_p28, List.forall_mem_cons.mpr ⟨lw_p29, List.forall_mem_cons.mpr ⟨lw_p30, List.forall_mem_cons.mpr ⟨lw_p31, fun _ h => absurd h List.not_mem_nil⟩⟩⟩⟩⟩⟩⟩⟩⟩⟩⟩⟩⟩⟩⟩⟩
theorem lw_p32 : lw_okq (⟨"PaintedDieModel", "beside", "(II)I"⟩, 25) := ⟨⟨by decide +kernel, by decide +kernel⟩, List.mem_of_getElem? (i := 581) (by decide +kernel), List.mem_of_getElem? (i := 726) (by decide +kernel), List.mem_of_getElem? (i := 727) (by decide +kernel)⟩
theorem lw_p33 : lw_okq (⟨"PaintedDieModel", "look", "()V"⟩, 25) := ⟨⟨by decide +kernel, by decide +kernel⟩, List.mem_of_getElem? (i := 581) (by decide +kernel), List.mem_of_getElem? (i := 730) (by decide +kernel), List.mem_of_getElem? (i := 731) (by decide +kernel)⟩
theorem lw_p34 : lw_okq (⟨"PaintedDieModel", "tip", "(II)V"⟩, 25) := ⟨⟨by decide +kernel, by decide +kernel⟩, List.mem_of_getElem? (i := 581) (by decide +kernel), List.mem_of_getElem? (i := 734) (by decide +kernel), List.mem_of_getElem? (i := 735) (by decide +kernel)⟩
theorem lw_p35 : lw_okq (⟨"PaintedDieModel", "rolledOn", "(II)I"⟩, 25) := ⟨⟨by decide +kernel, by decide +kernel⟩, List.mem_of_getElem? (i := 581) (by decide +kernel), List.mem_of_getElem? (i := 742) (by decide +kernel), List.mem_of_getElem? (i := 743) (by decide +kernel)⟩
theorem lw_p36 : lw_okq (⟨"PaintedDieModel", "ok", "(I)I"⟩, 25) := ⟨⟨by decide +kernel, by decide +kernel⟩, List.mem_of_getElem? (i := 581) (by decide +kernel), List.mem_of_getElem? (i := 750) (by decide +kernel), List.mem_of_getElem? (i := 751) (by decide +kernel)⟩
theorem lw_p37 : lw_okq (⟨"PaintedDieModel", "side", "(I)I"⟩, 25) := ⟨⟨by decide +kernel, by decide +kernel⟩, List.mem_of_getElem? (i := 581) (by decide +kernel), List.mem_of_getElem? (i := 770) (by decide +kernel), List.mem_of_getElem? (i := 771) (by decide +kernel)⟩
theorem lw_p38 : lw_okq (⟨"PaintedDieModel", "wallsThere", "()I"⟩, 25) := ⟨⟨by decide +kernel, by decide +kernel⟩, List.mem_of_getElem? (i := 581) (by decide +kernel), List.mem_of_getElem? (i := 810) (by decide +kernel), List.mem_of_getElem? (i := 811) (by decide +kernel)⟩
theorem lw_p39 : lw_okq (⟨"PaintedDieModel", "fewest", "(II)I"⟩, 25) := ⟨⟨by decide +kernel, by decide +kernel⟩, List.mem_of_getElem? (i := 581) (by decide +kernel), List.mem_of_getElem? (i := 830) (by decide +kernel), List.mem_of_getElem? (i := 831) (by decide +kernel)⟩
theorem lw_p40 : lw_okq (⟨"PaintedDieModel", "spread", "()V"⟩, 25) := ⟨⟨by decide +kernel, by decide +kernel⟩, List.mem_of_getElem? (i := 581) (by decide +kernel), List.mem_of_getElem? (i := 834) (by decide +kernel), List.mem_of_getElem? (i := 835) (by decide +kernel)⟩
theorem lw_p41 : lw_okq (⟨"PaintedDieModel", "reach", "(I)V"⟩, 25) := ⟨⟨by decide +kernel, by decide +kernel⟩, List.mem_of_getElem? (i := 581) (by decide +kernel), List.mem_of_getElem? (i := 838) (by decide +kernel), List.mem_of_getElem? (i := 839) (by decide +kernel)⟩
theorem lw_p42 : lw_okq (⟨"PaintedDieModel", "lookAt", "(I)V"⟩, 25) := ⟨⟨by decide +kernel, by decide +kernel⟩, List.mem_of_getElem? (i := 581) (by decide +kernel), List.mem_of_getElem? (i := 842) (by decide +kernel), List.mem_of_getElem? (i := 843) (by decide +kernel)⟩
theorem lw_p43 : lw_okq (⟨"PaintedDieModel", "farOf", "(I)I"⟩, 25) := ⟨⟨by decide +kernel, by decide +kernel⟩, List.mem_of_getElem? (i := 581) (by decide +kernel), List.mem_of_getElem? (i := 846) (by decide +kernel), List.mem_of_getElem? (i := 847) (by decide +kernel)⟩
theorem lw_p44 : lw_okq (⟨"PaintedDieModel", "fewestTo", "(II)I"⟩, 25) := ⟨⟨by decide +kernel, by decide +kernel⟩, List.mem_of_getElem? (i := 581) (by decide +kernel), List.mem_of_getElem? (i := 850) (by decide +kernel), List.mem_of_getElem? (i := 851) (by decide +kernel)⟩
theorem lw_p45 : lw_okq (⟨"PaintedDieModel", "first", "(II)I"⟩, 25) := ⟨⟨by decide +kernel, by decide +kernel⟩, List.mem_of_getElem? (i := 581) (by decide +kernel), List.mem_of_getElem? (i := 862) (by decide +kernel), List.mem_of_getElem? (i := 863) (by decide +kernel)⟩
theorem lw_p46 : lw_okq (⟨"PaintedDieModel", "topsOn", "(I)I"⟩, 25) := ⟨⟨by decide +kernel, by decide +kernel⟩, List.mem_of_getElem? (i := 581) (by decide +kernel), List.mem_of_getElem? (i := 870) (by decide +kernel), List.mem_of_getElem? (i := 871) (by decide +kernel)⟩
theorem lw_p47 : lw_okq (⟨"PaintedDieModel", "behind", "(I)I"⟩, 25) := ⟨⟨by decide +kernel, by decide +kernel⟩, List.mem_of_getElem? (i := 581) (by decide +kernel), List.mem_of_getElem? (i := 886) (by decide +kernel), List.mem_of_getElem? (i := 887) (by decide +kernel)⟩
def lw_privs_3 : List (MethodName × Nat) := [(⟨"PaintedDieModel", "beside", "(II)I"⟩, 25), (⟨"PaintedDieModel", "look", "()V"⟩, 25), (⟨"PaintedDieModel", "tip", "(II)V"⟩, 25), (⟨"PaintedDieModel", "rolledOn", "(II)I"⟩, 25), (⟨"PaintedDieModel", "ok", "(I)I"⟩, 25), (⟨"PaintedDieModel", "side", "(I)I"⟩, 25), (⟨"PaintedDieModel", "wallsThere", "()I"⟩, 25), (⟨"PaintedDieModel", "fewest", "(II)I"⟩, 25), (⟨"PaintedDieModel", "spread", "()V"⟩, 25), (⟨"PaintedDieModel", "reach", "(I)V"⟩, 25), (⟨"PaintedDieModel", "lookAt", "(I)V"⟩, 25), (⟨"PaintedDieModel", "farOf", "(I)I"⟩, 25), (⟨"PaintedDieModel", "fewestTo", "(II)I"⟩, 25), (⟨"PaintedDieModel", "first", "(II)I"⟩, 25), (⟨"PaintedDieModel", "topsOn", "(I)I"⟩, 25), (⟨"PaintedDieModel", "behind", "(I)I"⟩, 25)]
theorem lw_r3 : ∀ q ∈ lw_privs_3, lw_okq q := List.forall_mem_cons.mpr ⟨lw_p32, List.forall_mem_cons.mpr ⟨lw_p33, List.forall_mem_cons.mpr ⟨lw_p34, List.forall_mem_cons.mpr ⟨lw_p35, List.forall_mem_cons.mpr ⟨lw_p36, List.forall_mem_cons.mpr ⟨lw_p37, List.forall_mem_cons.mpr ⟨lw_p38, List.forall_mem_cons.mpr ⟨lw_p39, List.forall_mem_cons.mpr ⟨lw_p40, List.forall_mem_cons.mpr ⟨lw_p41, List.forall_mem_cons.mpr ⟨lw_p42, List.forall_mem_cons.mpr ⟨lw_p43, List.forall_mem_cons.mpr ⟨lw_p44, List.forall_mem_cons.mpr ⟨lw_p45, List.forall_mem_cons.mpr ⟨lw_p46, List.forall_mem_cons.mpr ⟨lw_p47, fun _ h => absurd h List.not_mem_nil⟩⟩⟩⟩⟩⟩⟩⟩⟩⟩⟩⟩⟩⟩⟩⟩
theorem lw_p48 : lw_okq (⟨"PaintedDieModel", "goOn", "()V"⟩, 25) := ⟨⟨by decide +kernel, by decide +kernel⟩, List.mem_of_getElem? (i := 581) (by decide +kernel), List.mem_of_getElem? (i := 890) (by decide +kernel), List.mem_of_getElem? (i := 891) (by decide +kernel)⟩
theorem lw_p49 : lw_okq (⟨"PaintedDieModel", "best", "(I)I"⟩, 25) := ⟨⟨by decide +kernel, by decide +kernel⟩, List.mem_of_getElem? (i := 581) (by decide +kernel), List.mem_of_getElem? (i := 901) (by decide +kernel), List.mem_of_getElem? (i := 902) (by decide +kernel)⟩
theorem lw_p50 : lw_okq (⟨"PaintedDieModel", "lookFirst", "(I)V"⟩, 25) := ⟨⟨by decide +kernel, by decide +kernel⟩, List.mem_of_getElem? (i := 581) (by decide +kernel), List.mem_of_getElem? (i := 905) (by decide +kernel), List.mem_of_getElem? (i := 906) (by decide +kernel)⟩
def lw_privs_4 : List (MethodName × Nat) := [(⟨"PaintedDieModel", "goOn", "()V"⟩, 25), (⟨"PaintedDieModel", "best", "(I)I"⟩, 25), (⟨"PaintedDieModel", "lookFirst", "(I)V"⟩, 25)]
theorem lw_r4 : ∀ q ∈ lw_privs_4, lw_okq q := List.forall_mem_cons.mpr ⟨lw_p48, List.forall_mem_cons.mpr ⟨lw_p49, List.forall_mem_cons.mpr ⟨lw_p50, fun _ h => absurd h List.not_mem_nil⟩⟩⟩
def lw_privs : List (MethodName × Nat) := lw_privs_1 ++ (lw_privs_2 ++ (lw_privs_3 ++ (lw_privs_4)))
def lw_tbl : List Cond := k2_sels lw_privs ++ tables_1
theorem lw_privs_ok : ∀ q ∈ lw_privs, lw_okq q := by
  show ∀ q ∈ lw_privs_1 ++ (lw_privs_2 ++ (lw_privs_3 ++ (lw_privs_4))), lw_okq q
  exact List.forall_mem_append.mpr ⟨lw_r1, List.forall_mem_append.mpr ⟨lw_r2, List.forall_mem_append.mpr ⟨lw_r3, lw_r4⟩⟩⟩
/-- the streams that the claim lets the run draw from -/
abbrev lw_cs : List Choice := [Jvm.Choice.named "NaN.bits"]
theorem lw_bits : nanBits ∈ lw_cs := by first | decide | exact List.mem_cons_self | simp [lw_cs, nanBits]
-- ===== end of PART A; then your names; then what follows =====
/-! ===== BEGIN words of one list among another's, by their places ===== -/
theorem goodIn_r {big : List Cond} (ws : List Cond) (ps : List Nat) (hp : ws = ps.filterMap (fun i => big[i]?)) (h : ws.all goodWord = true) : GoodIn big ws := by
  intro w hw
  have h1 := List.all_eq_true.mp h w hw
  rw [hp] at hw
  obtain ⟨i, -, hi⟩ := List.mem_filterMap.mp hw
  have hm : w ∈ big := by first | exact List.mem_of_getElem? hi | exact List.getElem?_mem hi
  exact ⟨hm, good_of_word h1⟩
theorem goodIn_app {big a b : List Cond} (ha : GoodIn big a) (hb : GoodIn big b) : GoodIn big (a ++ b) := fun w h => (List.mem_append.mp h).elim (ha w) (hb w)
theorem goodIn_ca {big a b : List Cond} {c : Cond} (ha : GoodIn big (c :: a)) (hb : GoodIn big b) : GoodIn big (c :: (a ++ b)) := fun w h => (List.mem_cons.mp h).elim (fun e => ha w (List.mem_cons.mpr (Or.inl e))) (fun h => (List.mem_append.mp h).elim (fun h => ha w (List.mem_cons.mpr (Or.inr h))) (hb w))
theorem goodIn_sub {big ws : List Cond} (hm : ∀ w ∈ ws, w ∈ big) (h : ws.all goodWord = true) : GoodIn big ws := fun w hw => ⟨hm w hw, good_of_word (List.all_eq_true.mp h w hw)⟩
/-! ===== END ===== -/

/-! ===== BEGIN exceptions that leave a method, and their catching by the caller (launches without stack traces) ===== -/
section VXA
/-! The laws vx_back, vx_callV, vx_callS, vx_callSW, vx_throw0, vx_throwS follow proofs of the library, with one case more: JvmDerived/Free/Laws.lean (Back.of_free), Shelf42/LK1.lean (callV, callS), Shelf/KitTraced.lean (throwNew0V, throwNewS). -/
/-- where a method has thrown q: the class by its name, the cell, what was written, the world -/
def vx_T (XC : String → State → State → Prop) (st : State) (q : Addr) (t : State) (mc ms : Nat) (free : Addr → Prop) : Prop :=
  ∃ (E : String) (ce : Cell) (L : List Loc), XC E st t ∧ t.heap[q]? = some ce ∧ ce.vm = .none ∧ st.vm.findClass E = some ce.cls ∧ st.WarmedH t.vm ∧ st.sameButNew ({ t with vm := st.vm } : State) L mc ms ∧ ∀ z ∈ L, free z.base
def vx_Q (Qc : Array Value → State → Outcome → State → Prop) (XC : String → State → State → Prop) (mc ms : Nat) (free : Addr → Prop) : Array Value → State → Outcome → State → Prop := fun a st o t =>
  (Qc a st o t ∧ ∃ L, FrameEnd st o t L mc ms ∧ ∀ q ∈ L, free q.base) ∨ ∃ q, o = .threw q ∧ vx_T XC st q t mc ms free
/-- a callee that returns or throws -/
def vx_Met (l : Launch) (y : MethodName) (ws : List Cond) (rm : Room) (Pc : Array Value → State → Prop) (Qc : Array Value → State → Outcome → State → Prop) (XC : String → State → State → Prop) (mc ms : Nat) (free : Addr → Prop) : Prop :=
  MetFree l y (headSpec ws rm) Pc (fun _ _ _ _ _ => True) (vx_Q Qc XC mc ms free)
def vx_Post (XC : String → State → State → Prop) (mc ms : Nat) (free : Addr → Prop) : Pt → Array Value → Addr → Pt → Prop := fun A a q B =>
  ∃ (g : JFrame) (mk : MethodId) (t : State) (L : List Loc) (E : String) (ce : Cell), B.U.heap = t.heap ∧ B.U.vm = t.vm ∧ XC E (A.U.calling g mk a) t ∧ t.heap[q]? = some ce ∧ ce.vm = .none ∧ A.U.vm.findClass E = some ce.cls ∧ B.locs = A.locs ++ L ∧ (∀ z ∈ L, free z.base) ∧ B.cells = A.cells + mc ∧ B.slots = A.slots + ms
def vx_Back (l : Launch) (R : Room) (p : Program) (e : Env) (below : List Frame) (s : State) (sargs : Array Value) (y : MethodName) (len W9 : Nat)
    (Pre : Pt → Array Value → Prop) (Post : Pt → Array Value → Option Value → Pt → Prop) (PostX : Pt → Array Value → Addr → Pt → Prop) : Prop :=
  ∀ (m : MethodId) (meth : Method) (c : Code) (A : Pt) (g : JFrame) (ig : Instr) (mk : MethodId) (a : Array Value),
    Stand p l e R s m sargs below meth c A.U A.locs A.cells A.slots → g.method = m → g.locals.size = c.maxLocals → decode c.code g.pc = .ok (ig, len) →
    2 * g.monitorRoom + (g.stack.map fun v => v.category).sum ≤ W9 → A.U.methodNamed? y = some mk → Pre A a →
    (∃ (v : Option Value) (B : Pt), Stand p l e R s m sargs below meth c B.U B.locs B.cells B.slots ∧ Post A a v B ∧
      Steps p.tables e below (doInvoke e (A.U.setTop g) [] mk a).1 (B.U.setTop { g with pc := g.pc + len, stack := v.toList ++ g.stack })) ∨
    (∃ (q : Addr) (B : Pt), Stand p l e R s m sargs below meth c B.U B.locs B.cells B.slots ∧ PostX A a q B ∧
      Steps p.tables e below (doInvoke e (A.U.setTop g) [] mk a).1 ((B.U.setTop g).pushFrame (.throwing q)))
section Payer
variable {l : Launch} {R : Room} {p : Program} {e : Env} {below : List Frame} {s : State} {sargs : Array Value} {y : MethodName} {len W9 : Nat}
theorem vx_back {ws : List Cond} {rm : Room} {Pc : Array Value → State → Prop} {Qc : Array Value → State → Outcome → State → Prop} {XC : String → State → State → Prop} {mc ms : Nat} {free : Addr → Prop} {bytes : ByteArray} {maxL : Nat} {ret : Option FieldType}
    (hM : vx_Met l y ws rm Pc Qc XC mc ms free) (hblind : FrameBlind Pc) (hrc : rm.cells = mc) (hrs : rm.slots = ms)
    (hframes : rm.frames + 1 ≤ R.frames) (hlocals : W9 + (maxL + 11) + rm.locals ≤ R.locals)
    (hws : ∀ w ∈ ws, ∀ a' U, s.WarmedH U.vm → w.before a' U = true) (hcode : Cond.code y bytes maxL ret ∈ ws) (hinit : ∀ a' U, s.WarmedH U.vm → (Cond.initialized y.cls).before a' U = true) :
    vx_Back l R p e below s sargs y len W9 (PreOf R mc ms Pc) (PostOf Qc mc ms free) (vx_Post XC mc ms free) := by
  intro m meth c A g ig mk a X hg hsize hdg hW hn hp
  have h1 : (headSpec ws rm).pre.before a A.U = true := atoms_intro fun w hw => hws w hw _ _ X.warmed
  have h2 : (Cond.code y bytes maxL ret).before a A.U = true := hws _ hcode _ _ X.warmed
  have h3 : (Cond.initialized y.cls).before a A.U = true := hinit _ _ X.warmed
  have h4 : A.cells + (headSpec ws rm).room.cells ≤ R.cells := by rw [show (headSpec ws rm).room.cells = mc from hrc]; exact hp.1
  have h5 : A.slots + (headSpec ws rm).room.slots ≤ R.slots := by rw [show (headSpec ws rm).room.slots = ms from hrs]; exact hp.2.1
  have hPc : Pc a (A.U.calling g mk a) := hblind _ _ _ _ hp.2.2
  obtain ⟨U, Ls, c0, s0⟩ := A
  dsimp only [Pt.U, Pt.locs, Pt.cells, Pt.slots] at h1 h2 h3 h4 h5 X hn hPc ⊢
  obtain ⟨methY, cY, hmY, hcY, -, hlY, -, -, -, -⟩ := Cond.code_spec hn h2
  obtain ⟨kY, hkY, -⟩ := className_of_methodNamed hn
  have hinitY : kY.init = .initialized := Cond.initialized_spec (findClass_of_methodNamed hn) hkY h3
  have h : At U g.method c below := by rw [hg]; exact X.here
  have hlocals9 : W9 + (maxL + 11) + (headSpec ws rm).room.locals ≤ R.locals := hlocals
  have happ : (headSpec ws rm).appliesLoose y e.platform (U.calling g mk a) = true :=
    Spec.appliesLoose_calling (g := g) h hdg hn hkY hinitY
      (X.room_calling (g := g) (R' := (headSpec ws rm).room) hsize hmY hcY hframes (by rw [hlY]; omega) h4 h5) h1
  obtain ⟨mid, hmid⟩ := h.above
  have hfr : (U.setTop g).frames = (.java g :: mid) ++ below := by rw [State.frames_setTop' g h.top, hmid]; rfl
  obtain ⟨o, s₂, hsteps, -, hend, hq⟩ := Steps.callFree hM p X.admits X.cas X.clock (acts := []) hfr happ hPc trivial
  have hq' : vx_Q Qc XC mc ms free a (U.calling g mk a) o s₂ := hq
  rw [State.frames_setTop' g h.top] at hend
  obtain ⟨g₀, hg0⟩ := Option.isSome_iff_exists.mp h.top
  obtain ⟨r, hr⟩ := State.topJava?_eq_some.mp hg0
  have hr' : (({ U with heap := s₂.heap, slotsUsed := s₂.slotsUsed } : State).setVm s₂.vm).frames = .java g₀ :: r := hr
  rcases hq' with ⟨hqc, L, hfe, hL⟩ | ⟨q, rfl, E, ce, L, hx, hce, hcv, hcl, hW₂, hsm, hL⟩
  · obtain ⟨⟨v, rfl⟩, hW₂, e2, q2, q3, q4, q5, q6⟩ := id hfe
    have e3 : s₂ = ({ (U.calling g mk a).setFrames s₂.frames with heap := s₂.heap, slotsUsed := s₂.slotsUsed } : State).setVm s₂.vm := by
      have : s₂ = ({ s₂ with vm := (U.calling g mk a).vm } : State).setVm s₂.vm := rfl
      rw [e2] at this
      exact this
    obtain ⟨c₂, i₂, len₂, hc₂, hd₂, hf₂⟩ := hend
    have hW' : U.WarmedH s₂.vm := hW₂
    have hcc : c₂ = c := by
      have h1 : s₂.code? g.method = U.code? g.method := by
        rw [State.code?_eq, State.code?_eq, hW'.alike.method?]
      exact Option.some.inj (hc₂.symm.trans (h1.trans h.code))
    subst hcc
    have hlen : len₂ = len := by rw [hdg] at hd₂; cases hd₂; rfl
    subst hlen
    have hs₂ : s₂ = (({ U with heap := s₂.heap, slotsUsed := s₂.slotsUsed } : State).setVm s₂.vm).setTop { g with pc := g.pc + len₂, stack := v.toList ++ g.stack } := by
      refine e3.trans ?_
      rw [hf₂, State.calling_eq h.top, State.setFrames_setFrames, State.setTop_of_frames _ hr', hr]
      rfl
    have hsame : U.sameButNew ({ U with heap := s₂.heap, slotsUsed := s₂.slotsUsed } : State) L mc ms := by
      refine ⟨?_, q2, q3, q4, q5, q6⟩
      obtain ⟨t, ht, -⟩ := State.frames_cons hr
      show ({ U with heap := s₂.heap, slotsUsed := s₂.slotsUsed } : State) = { U.setFrames U.frames with heap := s₂.heap, slotsUsed := s₂.slotsUsed }
      rw [State.setFrames_self ht]
    subst hg
    refine Or.inl ⟨v, ⟨(({ U with heap := s₂.heap, slotsUsed := s₂.slotsUsed } : State).setVm s₂.vm), Ls ++ L, c0 + mc, s0 + ms⟩,
      ⟨X.admits, X.cas, X.clock, X.frames, X.room, X.hears, X.method, X.code, (X.here.setHeapUsed s₂.heap s₂.slotsUsed).setVm hW'.alike, X.tail, State.WarmedH.trans X.warmed hW', X.limits, X.bytes, X.same.trans (hsame.setVm s.vm)⟩,
      ⟨g, mk, s₂, L, rfl, rfl, hqc, rfl, hL, rfl, rfl⟩, ?_⟩
    show Steps p.tables e below _ ((({ U with heap := s₂.heap, slotsUsed := s₂.slotsUsed } : State).setVm s₂.vm).setTop { g with pc := g.pc + len₂, stack := v.toList ++ g.stack })
    rw [← hs₂]
    exact hsteps
  · obtain ⟨e2, q2, q3, q4, q5, q6⟩ := id hsm
    have e3 : s₂ = ({ (U.calling g mk a).setFrames s₂.frames with heap := s₂.heap, slotsUsed := s₂.slotsUsed } : State).setVm s₂.vm := by
      have : s₂ = ({ s₂ with vm := (U.calling g mk a).vm } : State).setVm s₂.vm := rfl
      rw [e2] at this
      exact this
    have hf₂ : s₂.frames = .throwing q :: .java g :: U.frames.tail := hend
    have hW' : U.WarmedH s₂.vm := hW₂
    have hs₂ : s₂ = ((({ U with heap := s₂.heap, slotsUsed := s₂.slotsUsed } : State).setVm s₂.vm).setTop g).pushFrame (.throwing q) := by
      refine e3.trans ?_
      rw [hf₂, State.calling_eq h.top, State.setFrames_setFrames, State.pushFrame, State.frames_setTop _ hr', State.setTop_of_frames _ hr', State.setFrames_setFrames, hr]
      rfl
    have hsame : U.sameButNew ({ U with heap := s₂.heap, slotsUsed := s₂.slotsUsed } : State) L mc ms := by
      refine ⟨?_, q2, q3, q4, q5, q6⟩
      obtain ⟨t, ht, -⟩ := State.frames_cons hr
      show ({ U with heap := s₂.heap, slotsUsed := s₂.slotsUsed } : State) = { U.setFrames U.frames with heap := s₂.heap, slotsUsed := s₂.slotsUsed }
      rw [State.setFrames_self ht]
    subst hg
    refine Or.inr ⟨q, ⟨(({ U with heap := s₂.heap, slotsUsed := s₂.slotsUsed } : State).setVm s₂.vm), Ls ++ L, c0 + mc, s0 + ms⟩,
      ⟨X.admits, X.cas, X.clock, X.frames, X.room, X.hears, X.method, X.code, (X.here.setHeapUsed s₂.heap s₂.slotsUsed).setVm hW'.alike, X.tail, State.WarmedH.trans X.warmed hW', X.limits, X.bytes, X.same.trans (hsame.setVm s.vm)⟩,
      ⟨g, mk, s₂, L, E, ce, rfl, rfl, hx, hce, hcv, hcl, rfl, hL, rfl, rfl⟩, ?_⟩
    show Steps p.tables e below _ (((({ U with heap := s₂.heap, slotsUsed := s₂.slotsUsed } : State).setVm s₂.vm).setTop g).pushFrame (.throwing q))
    rw [← hs₂]
    exact hsteps
end Payer
section Calls
variable {p : Program} {l : Launch} {e : Env} {R : Room} {s : State} {m : MethodId} {args : Array Value} {below : List Frame} {meth : Method} {c : Code} {T : State} {locs : List Loc} {cells slots : Nat}
theorem vx_callV (X : Stand p l e R s m args below meth c T locs cells slots) (hexec : p.tables.exec = Jvm.exec) {own C : String} {index : Nat} {y : MethodName} {bytes : ByteArray} {maxL : Nat} {ret : Option FieldType}
    (hown : s.vm.findClass own = some m.cls) (hlink : (Cond.methodLink own index y).before args s = true) (hinst : (Cond.instanceMethod y).before args s = true) (hsel : (Cond.selects C y y).before args s = true)
    (hcode : (Cond.code y bytes maxL ret).before args s = true) (hy : y.cls ≠ "java/lang/invoke/MethodHandle" ∧ y.cls ≠ "java/lang/invoke/VarHandle")
    {W9 : Nat} {Pre : Pt → Array Value → Prop} {Post : Pt → Array Value → Option Value → Pt → Prop} {PostX : Pt → Array Value → Addr → Pt → Prop} (hK : vx_Back l R p e below s args y 3 W9 Pre Post PostX)
    {b : Addr} {cellB : Cell} (hcell : T.heap[b]? = some cellB) (hobj : cellB.vm.isStatics = false) (hcls : s.vm.findClass C = some cellB.cls)
    {g : JFrame} (hg : g.method = m) (hsize : g.locals.size = c.maxLocals) {argsL rest : List Value} (hlen : ∀ sig, parseMethodDescriptor y.desc = some sig → argsL.length = sig.parameters.length)
    (hstack : g.stack = argsL.reverse ++ .ref b :: rest) (hW : 2 * g.monitorRoom + (rest.map fun v => v.category).sum ≤ W9) (hdg : decode c.code g.pc = .ok (.invokevirtual index, 3))
    (hpre : ∀ vm₁, s.WarmedH vm₁ → Pre ⟨T.setVm vm₁, locs, cells, slots⟩ (Value.ref b :: argsL).toArray) :
    (∃ (v : Option Value) (vm₁ : Vm) (B : Pt), s.WarmedH vm₁ ∧ Stand p l e R s m args below meth c B.U B.locs B.cells B.slots ∧ Post ⟨T.setVm vm₁, locs, cells, slots⟩ (Value.ref b :: argsL).toArray v B ∧
      ∀ target, Steps p.tables e below (B.U.setTop { g with pc := g.pc + 3, stack := v.toList ++ rest }) target → Steps p.tables e below (T.setTop g) target) ∨
    (∃ (q : Addr) (vm₁ : Vm) (B : Pt), s.WarmedH vm₁ ∧ Stand p l e R s m args below meth c B.U B.locs B.cells B.slots ∧ PostX ⟨T.setVm vm₁, locs, cells, slots⟩ (Value.ref b :: argsL).toArray q B ∧
      Steps p.tables e below (T.setTop g) ((B.U.setTop { g with stack := rest }).pushFrame (.throwing q))) := by
  obtain ⟨mk, methM, hnamed, hmethM, hstM, habM⟩ := Cond.instanceMethod_spec hinst
  obtain ⟨methM', cM, hmethM', -, -, -, -, -, -, hsigM⟩ := Cond.code_spec hnamed hcode
  cases hmethM.symm.trans hmethM'
  obtain ⟨c2, r2, m2, q1, q2, q3, q4, kP, hkP, hkPi⟩ := Cond.selects_spec hsel
  cases hcls.symm.trans q1
  cases (State.methodFound?_of_named hnamed hy).symm.trans q2
  cases hnamed.symm.trans q3
  have hselP : selectMethod e.platform s.vm cellB.cls mk = .method mk := by rw [Launch.admits_selectMethod X.admits]; exact q4
  obtain ⟨vm₁, X₁, hstep₁⟩ := X.invokevirtual hexec hown hlink hnamed hmethM hstM hkP hkPi hy (a := b) (cell := cellB) hcell
    (fun z h => by rw [h] at hobj; cases hobj) hselP hmethM habM hkP hkPi (g := g) hg (argsL := argsL) (rest := rest) (hlen _ hsigM) hstack hdg
  rcases hK m meth c ⟨T.setVm vm₁, locs, cells, slots⟩ { g with stack := rest } (.invokevirtual index) mk (Value.ref b :: argsL).toArray X₁ hg hsize hdg hW (X₁.named hnamed) (hpre vm₁ X₁.warmed) with ⟨v, B, X', hpost, hsteps⟩ | ⟨q, B, X', hpost, hsteps⟩
  · exact Or.inl ⟨v, vm₁, B, X₁.warmed, X', hpost, fun target h => hstep₁ _ fun acts => by rw [doInvoke_state]; exact hsteps.trans h⟩
  · exact Or.inr ⟨q, vm₁, B, X₁.warmed, X', hpost, hstep₁ _ fun acts => by rw [doInvoke_state]; exact hsteps⟩
theorem vx_callS (X : Stand p l e R s m args below meth c T locs cells slots) (hexec : p.tables.exec = Jvm.exec) {own : String} {index : Nat} {y : MethodName} {bytes : ByteArray} {maxL : Nat} {ret : Option FieldType}
    (hown : s.vm.findClass own = some m.cls) (hlink : (Cond.methodLink own index y).before args s = true) (hstat : (Cond.static y).before args s = true) (hinit : (Cond.initialized y.cls).before args s = true)
    (hcode : (Cond.code y bytes maxL ret).before args s = true) (hy : y.cls ≠ "java/lang/invoke/MethodHandle" ∧ y.cls ≠ "java/lang/invoke/VarHandle")
    {W9 : Nat} {Pre : Pt → Array Value → Prop} {Post : Pt → Array Value → Option Value → Pt → Prop} {PostX : Pt → Array Value → Addr → Pt → Prop} (hK : vx_Back l R p e below s args y 3 W9 Pre Post PostX)
    {g : JFrame} (hg : g.method = m) (hsize : g.locals.size = c.maxLocals) {argsL rest : List Value} (hlen : ∀ sig, parseMethodDescriptor y.desc = some sig → argsL.length = sig.parameters.length)
    (hstack : g.stack = argsL.reverse ++ rest) (hW : 2 * g.monitorRoom + (rest.map fun v => v.category).sum ≤ W9) (hdg : decode c.code g.pc = .ok (.invokestatic index, 3))
    (hpre : ∀ vm₁, s.WarmedH vm₁ → Pre ⟨T.setVm vm₁, locs, cells, slots⟩ argsL.toArray) :
    (∃ (v : Option Value) (vm₁ : Vm) (B : Pt), s.WarmedH vm₁ ∧ Stand p l e R s m args below meth c B.U B.locs B.cells B.slots ∧ Post ⟨T.setVm vm₁, locs, cells, slots⟩ argsL.toArray v B ∧
      ∀ target, Steps p.tables e below (B.U.setTop { g with pc := g.pc + 3, stack := v.toList ++ rest }) target → Steps p.tables e below (T.setTop g) target) ∨
    (∃ (q : Addr) (vm₁ : Vm) (B : Pt), s.WarmedH vm₁ ∧ Stand p l e R s m args below meth c B.U B.locs B.cells B.slots ∧ PostX ⟨T.setVm vm₁, locs, cells, slots⟩ argsL.toArray q B ∧
      Steps p.tables e below (T.setTop g) ((B.U.setTop { g with stack := rest }).pushFrame (.throwing q))) := by
  obtain ⟨mk, hnamed⟩ := Cond.code_named hcode
  obtain ⟨methM, cM, hmethM, -, -, -, -, -, -, hsigM⟩ := Cond.code_spec hnamed hcode
  have hstatic : methM.isStatic = true := Cond.static_spec hnamed hmethM hstat
  obtain ⟨kP, hkP, -⟩ := className_of_methodNamed hnamed
  have hinitP : kP.init = .initialized := Cond.initialized_spec (findClass_of_methodNamed hnamed) hkP hinit
  obtain ⟨vm₁, X₁, hstep₁⟩ := X.invokestatic hexec hown hlink hnamed hmethM hstatic hkP hinitP hy (g := g) hg (argsL := argsL) (rest := rest) (hlen _ hsigM) hstack hdg
  rcases hK m meth c ⟨T.setVm vm₁, locs, cells, slots⟩ { g with stack := rest } (.invokestatic index) mk argsL.toArray X₁ hg hsize hdg hW (X₁.named hnamed) (hpre vm₁ X₁.warmed) with ⟨v, B, X', hpost, hsteps⟩ | ⟨q, B, X', hpost, hsteps⟩
  · exact Or.inl ⟨v, vm₁, B, X₁.warmed, X', hpost, fun target h => hstep₁ _ fun acts => by rw [doInvoke_state]; exact hsteps.trans h⟩
  · exact Or.inr ⟨q, vm₁, B, X₁.warmed, X', hpost, hstep₁ _ fun acts => by rw [doInvoke_state]; exact hsteps⟩
end Calls
theorem vx_cls {s : State} {T : State} {vm₁ : Vm} {E : String} {k : ClassId} (hW : s.WarmedH vm₁) (h : (T.setVm vm₁).vm.findClass E = some k) : s.vm.findClass E = some k := by
  have h1 : vm₁.findClass E = some k := h
  rw [hW.alike.findClass] at h1
  exact h1
/-- the method's frame g, with q thrown over it -/
def vx_W (p : Program) (l : Launch) (e : Env) (R : Room) (s : State) (m : MethodId) (args : Array Value) (below : List Frame) (meth : Method) (c : Code) (H : Heap) (locs : List Loc) (cells slots : Nat) (Q : State → Prop) (g : JFrame) (q : Addr) : Prop :=
  ∀ T : State, T.heap = H → Stand p l e R s m args below meth c T locs cells slots → ∃ t, Steps p.tables e below ((T.setTop g).pushFrame (.throwing q)) t ∧ Q t
def vx_Run (p : Program) (l : Launch) (e : Env) (R : Room) (s : State) (m : MethodId) (args : Array Value) (below : List Frame) (meth : Method) (c : Code) (H : Heap) (locs : List Loc) (cells slots mc ms : Nat) (g : JFrame) (rest : List Value) (Qa : State → Outcome → State → Prop) (XC : String → State → State → Prop) (free : Addr → Prop) : Prop :=
  ∀ T : State, T.heap = H → Stand p l e R s m args below meth c T locs cells slots →
    (∃ (v : Option Value) (st₀ t T' : State) (L : List Loc), st₀.heap = H ∧ Stand p l e R s m args below meth c T' (locs ++ L) (cells + mc) (slots + ms) ∧ (∀ q ∈ L, free q.base) ∧ T'.heap = t.heap ∧ T'.vm = t.vm ∧ Qa st₀ (.returned v) t ∧
      Goes p e below T g T' { g with pc := g.pc + 3, stack := v.toList ++ rest }) ∨
    (∃ (q : Addr) (st₀ t T' : State) (L : List Loc) (E : String) (ce : Cell), st₀.heap = H ∧ Stand p l e R s m args below meth c T' (locs ++ L) (cells + mc) (slots + ms) ∧ (∀ z ∈ L, free z.base) ∧ T'.heap = t.heap ∧ T'.vm = t.vm ∧ XC E st₀ t ∧ t.heap[q]? = some ce ∧ ce.vm = .none ∧ s.vm.findClass E = some ce.cls ∧
      Steps p.tables e below (T.setTop g) ((T'.setTop { g with stack := rest }).pushFrame (.throwing q)))
def vx_X {S : Type} (px : S → Prop) (B : String → S → State → Prop) (A : Nat → Prop) : String → State → State → Prop := fun E st t => ∃ u : S, px u ∧ B E u t ∧ va_F A st t
section Runs
variable {p : Program} {l : Launch} {e : Env} {R : Room} {s : State} {m : MethodId} {args : Array Value} {below : List Frame} {meth : Method} {c : Code} {H : Heap} {locs : List Loc} {cells slots : Nat}
variable {y : MethodName} {bytes cc : ByteArray} {maxL nL mc ms n index : Nat} {ret : Option FieldType} {ws : List Cond} {rm : Room} {Pc : Array Value → State → Prop} {Qc : Array Value → State → Outcome → State → Prop} {XC : String → State → State → Prop} {free : Addr → Prop} {Ts : List Cond} {own C : String} {b : Addr} {As rest : List Value} {g : JFrame}
theorem vx_callBack (cb : CallB R s args own index y bytes maxL ret ws rm mc ms n) (hM : vx_Met l y ws rm Pc Qc XC mc ms free) (hbl : FrameBlind Pc) : vx_Back l R p e below s args y 3 8 (PreOf R mc ms Pc) (PostOf Qc mc ms free) (vx_Post XC mc ms free) := by
  obtain ⟨hrc, hrs, hfr, hlo, hws, hcw, -, hini, -⟩ := cb
  exact vx_back (bytes := bytes) (maxL := maxL) (ret := ret) hM hbl hrc hrs hfr hlo hws hcw (fun a' U hW => word_at hW (Or.inl (by first | rfl | simp [Cond.onTables, Cond.keeps, Cond.steady])) hini)
theorem vx_runV (S : CallFix p m c cc nL s args Ts own) (hM : vx_Met l y ws rm Pc Qc XC mc ms free) (cw : CallW R s args own C index y bytes maxL ret ws rm mc ms n) (hp : PreV s H C b Pc As)
    (hg : g.method = m) (hn : As.length = n) (hsize : g.locals.size = nL) (hstack : g.stack = As.reverse ++ .ref b :: rest) (hW : 2 * g.monitorRoom + (rest.map fun v => v.category).sum ≤ 8) (hdg : decode cc g.pc = .ok (.invokevirtual index, 3)) (hf : cells + mc ≤ R.cells ∧ slots + ms ≤ R.slots) :
    vx_Run p l e R s m args below meth c H locs cells slots mc ms g rest (Qc (Value.ref b :: As).toArray) XC free := by
  have hK : vx_Back l R p e below s args y 3 8 (PreOf R mc ms Pc) (PostOf Qc mc ms free) (vx_Post XC mc ms free) := vx_callBack cw.1 hM hp.1
  obtain ⟨⟨-, -, -, -, -, -, hcode, -, hy, hlen, hl⟩, hin, hse⟩ := cw
  obtain ⟨hx, hb, hml, ho, -⟩ := S
  obtain ⟨-, ⟨cellB, hcB, hoB, hclB⟩, hPc⟩ := hp
  intro T hT X
  rcases vx_callV X hx (C := C) (bytes := bytes) (maxL := maxL) (ret := ret) ho hl hin hse hcode hy hK (by rw [hT]; exact hcB) hoB hclB hg (hsize.trans hml.symm) (argsL := As) (rest := rest) (fun sig h => hn.trans (hlen sig h)) hstack hW (by rw [hb]; exact hdg)
    (fun vm₁ hW₁ => ⟨hf.1, hf.2, hPc (T.setVm vm₁) hT hW₁⟩) with ⟨v, vm₁, ⟨U', l2, c2, s2⟩, hW₁, X', ⟨g', mk, t, L, e1, e2, hq, h1, hL, h2, h3⟩, st⟩ | ⟨q, vm₁, ⟨U', l2, c2, s2⟩, hW₁, X', ⟨g', mk, t, L, E, ce, e1, e2, hq, hce, hcv, hcl, h1, hL, h2, h3⟩, st⟩
  · dsimp only [Pt.U, Pt.locs, Pt.cells, Pt.slots] at X' e1 e2 h1 h2 h3 st
    subst h1; subst h2; subst h3
    exact Or.inl ⟨v, (T.setVm vm₁).calling g' mk (Value.ref b :: As).toArray, t, U', L, hT, X', hL, e1, e2, hq, st⟩
  · dsimp only [Pt.U, Pt.locs, Pt.cells, Pt.slots] at X' e1 e2 h1 h2 h3 st hcl
    subst h1; subst h2; subst h3
    exact Or.inr ⟨q, (T.setVm vm₁).calling g' mk (Value.ref b :: As).toArray, t, U', L, E, ce, hT, X', hL, e1, e2, hq, hce, hcv, vx_cls hW₁ hcl, st⟩
theorem vx_runS (S : CallFix p m c cc nL s args Ts own) (hM : vx_Met l y ws rm Pc Qc XC mc ms free) (cw : CallB R s args own index y bytes maxL ret ws rm mc ms n ∧ (Cond.static y).before args s = true) (hp : PreS s H Pc As)
    (hg : g.method = m) (hn : As.length = n) (hsize : g.locals.size = nL) (hstack : g.stack = As.reverse ++ rest) (hW : 2 * g.monitorRoom + (rest.map fun v => v.category).sum ≤ 8) (hdg : decode cc g.pc = .ok (.invokestatic index, 3)) (hf : cells + mc ≤ R.cells ∧ slots + ms ≤ R.slots) :
    vx_Run p l e R s m args below meth c H locs cells slots mc ms g rest (Qc As.toArray) XC free := by
  have hK : vx_Back l R p e below s args y 3 8 (PreOf R mc ms Pc) (PostOf Qc mc ms free) (vx_Post XC mc ms free) := vx_callBack cw.1 hM hp.1
  obtain ⟨⟨-, -, -, -, -, -, hcode, hini, hy, hlen, hl⟩, hstt⟩ := cw
  obtain ⟨hx, hb, hml, ho, -⟩ := S
  intro T hT X
  rcases vx_callS X hx (bytes := bytes) (maxL := maxL) (ret := ret) ho hl hstt hini hcode hy hK hg (hsize.trans hml.symm) (argsL := As) (rest := rest) (fun sig h => hn.trans (hlen sig h)) hstack hW (by rw [hb]; exact hdg)
    (fun vm₁ hW₁ => ⟨hf.1, hf.2, hp.2 (T.setVm vm₁) hT hW₁⟩) with ⟨v, vm₁, ⟨U', l2, c2, s2⟩, hW₁, X', ⟨g', mk, t, L, e1, e2, hq, h1, hL, h2, h3⟩, st⟩ | ⟨q, vm₁, ⟨U', l2, c2, s2⟩, hW₁, X', ⟨g', mk, t, L, E, ce, e1, e2, hq, hce, hcv, hcl, h1, hL, h2, h3⟩, st⟩
  · dsimp only [Pt.U, Pt.locs, Pt.cells, Pt.slots] at X' e1 e2 h1 h2 h3 st
    subst h1; subst h2; subst h3
    exact Or.inl ⟨v, (T.setVm vm₁).calling g' mk As.toArray, t, U', L, hT, X', hL, e1, e2, hq, st⟩
  · dsimp only [Pt.U, Pt.locs, Pt.cells, Pt.slots] at X' e1 e2 h1 h2 h3 st hcl
    subst h1; subst h2; subst h3
    exact Or.inr ⟨q, (T.setVm vm₁).calling g' mk As.toArray, t, U', L, E, ce, hT, X', hL, e1, e2, hq, hce, hcv, vx_cls hW₁ hcl, st⟩
end Runs
section Rows
variable {p : Program} {l : Launch} {e : Env} {R : Room} {s : State} {m : MethodId} {args : Array Value} {below : List Frame} {meth : Method} {c : Code} {H : Heap} {locs : List Loc} {cells slots : Nat} {Q : State → Prop}
variable {mc ms : Nat} {free : Addr → Prop} {A0 A1 : Nat → Prop} {H0 : Heap} {a : Array Value} {pc : Nat} {ls : Array Slot} {st0 rest : List Value}
theorem vx_keep {st₀ t T' : State} {L : List Loc} (h0 : st₀.heap = H) (e1 : T'.heap = t.heap) (hS : va_S A0 H0 H locs) (hA : ∀ q, q < H.size → A1 q → A0 q) (hf : ∀ q, free q → A0 q) (hL : ∀ q ∈ L, free q.base) (hF : va_F A1 st₀ t) :
    H.size ≤ T'.heap.size ∧ (∀ q : Nat, q < H.size → ¬ A1 q → T'.heap[q]? = H[q]?) ∧ va_S A0 H0 T'.heap (locs ++ L) := by
  obtain ⟨hz, hk⟩ := hF
  rw [h0] at hz hk
  exact ⟨by rw [e1]; exact hz, fun q h1 h2 => by rw [e1]; exact hk q h1 h2,
    ⟨Nat.le_trans hS.1 (by rw [e1]; exact hz), fun q h1 h2 => by rw [e1, hk q (Nat.lt_of_lt_of_le h1 hS.1) (fun z => h2 (hA q (Nat.lt_of_lt_of_le h1 hS.1) z))]; exact hS.2.1 q h1 h2, fun q hq => by
      rcases List.mem_append.mp hq with h | h
      · exact hS.2.2 q h
      · exact hf _ (hL q h)⟩⟩
theorem vx_calli {S SX : Type} {post : Int32 → S → Prop} {px : SX → Prop} {B : S → State → Prop} {BX : String → SX → State → Prop} {AX : Nat → Prop} (hr : vx_Run p l e R s m args below meth c H locs cells slots mc ms (F0 m pc ls st0) rest (va_Qi post B A1 a) (vx_X px BX AX) free) (hS : va_S A0 H0 H locs) (hA : ∀ q, q < H.size → A1 q → A0 q) (hf : ∀ q, free q → A0 q) (hAX : ∀ q, q < H.size → AX q → A0 q)
    (kx : ∀ (E : String) (ce : Cell) (q9 : Addr) (u : SX) (t : State) (H1 : Heap) (locs1 : List Loc), t.heap = H1 → s.vm.Alike t.vm → px u → BX E u t → H.size ≤ H1.size → (∀ q : Nat, q < H.size → ¬ AX q → H1[q]? = H[q]?) → va_S A0 H0 H1 locs1 → H1[q9]? = some ce → ce.vm = .none → s.vm.findClass E = some ce.cls → vx_W p l e R s m args below meth c H1 locs1 (cells + mc) (slots + ms) Q (F0 m pc ls rest) q9)
    (kk : ∀ (r : Int32) (u : S) (t : State) (H1 : Heap) (locs1 : List Loc), t.heap = H1 → s.vm.Alike t.vm → post r u → B u t → H.size ≤ H1.size → (∀ q : Nat, q < H.size → ¬ A1 q → H1[q]? = H[q]?) → va_S A0 H0 H1 locs1 → W p l e R s m args below meth c H1 locs1 (cells + mc) (slots + ms) Q (F0 m (pc + 3) ls (.int r :: rest))) : W p l e R s m args below meth c H locs cells slots Q (F0 m pc ls st0) := by
  intro T hT X
  rcases hr T hT X with ⟨v, st₀, t, T', L, h0, X', hL, e1, e2, ⟨⟨r, u, hv, hp, hb⟩, hF⟩, st⟩ | ⟨q, st₀, t, T', L, E, ce, h0, X', hL, e1, e2, ⟨u, hp, hb, hF⟩, hce, hcv, hcl, st⟩
  · cases hv
    obtain ⟨k1, k2, k3⟩ := vx_keep h0 e1 hS hA hf hL hF
    obtain ⟨t2, a1, b1⟩ := kk r u t T'.heap (locs ++ L) e1.symm (by rw [← e2]; exact X'.warmed.alike) hp hb k1 k2 k3 T' rfl X'
    exact ⟨t2, st t2 a1, b1⟩
  · obtain ⟨k1, k2, k3⟩ := vx_keep h0 e1 hS hAX hf hL hF
    obtain ⟨t2, a1, b1⟩ := kx E ce q u t T'.heap (locs ++ L) e1.symm (by rw [← e2]; exact X'.warmed.alike) hp hb k1 k2 k3 (by rw [e1]; exact hce) hcv hcl T' rfl X'
    exact ⟨t2, st.trans a1, b1⟩
theorem vx_calll {S SX : Type} {post : Int64 → S → Prop} {px : SX → Prop} {B : S → State → Prop} {BX : String → SX → State → Prop} {AX : Nat → Prop} (hr : vx_Run p l e R s m args below meth c H locs cells slots mc ms (F0 m pc ls st0) rest (va_Ql post B A1 a) (vx_X px BX AX) free) (hS : va_S A0 H0 H locs) (hA : ∀ q, q < H.size → A1 q → A0 q) (hf : ∀ q, free q → A0 q) (hAX : ∀ q, q < H.size → AX q → A0 q)
    (kx : ∀ (E : String) (ce : Cell) (q9 : Addr) (u : SX) (t : State) (H1 : Heap) (locs1 : List Loc), t.heap = H1 → s.vm.Alike t.vm → px u → BX E u t → H.size ≤ H1.size → (∀ q : Nat, q < H.size → ¬ AX q → H1[q]? = H[q]?) → va_S A0 H0 H1 locs1 → H1[q9]? = some ce → ce.vm = .none → s.vm.findClass E = some ce.cls → vx_W p l e R s m args below meth c H1 locs1 (cells + mc) (slots + ms) Q (F0 m pc ls rest) q9)
    (kk : ∀ (r : Int64) (u : S) (t : State) (H1 : Heap) (locs1 : List Loc), t.heap = H1 → s.vm.Alike t.vm → post r u → B u t → H.size ≤ H1.size → (∀ q : Nat, q < H.size → ¬ A1 q → H1[q]? = H[q]?) → va_S A0 H0 H1 locs1 → W p l e R s m args below meth c H1 locs1 (cells + mc) (slots + ms) Q (F0 m (pc + 3) ls (.long r :: rest))) : W p l e R s m args below meth c H locs cells slots Q (F0 m pc ls st0) := by
  intro T hT X
  rcases hr T hT X with ⟨v, st₀, t, T', L, h0, X', hL, e1, e2, ⟨⟨r, u, hv, hp, hb⟩, hF⟩, st⟩ | ⟨q, st₀, t, T', L, E, ce, h0, X', hL, e1, e2, ⟨u, hp, hb, hF⟩, hce, hcv, hcl, st⟩
  · cases hv
    obtain ⟨k1, k2, k3⟩ := vx_keep h0 e1 hS hA hf hL hF
    obtain ⟨t2, a1, b1⟩ := kk r u t T'.heap (locs ++ L) e1.symm (by rw [← e2]; exact X'.warmed.alike) hp hb k1 k2 k3 T' rfl X'
    exact ⟨t2, st t2 a1, b1⟩
  · obtain ⟨k1, k2, k3⟩ := vx_keep h0 e1 hS hAX hf hL hF
    obtain ⟨t2, a1, b1⟩ := kx E ce q u t T'.heap (locs ++ L) e1.symm (by rw [← e2]; exact X'.warmed.alike) hp hb k1 k2 k3 (by rw [e1]; exact hce) hcv hcl T' rfl X'
    exact ⟨t2, st.trans a1, b1⟩
theorem vx_callf {S SX : Type} {post : UInt32 → S → Prop} {px : SX → Prop} {B : S → State → Prop} {BX : String → SX → State → Prop} {AX : Nat → Prop} (hr : vx_Run p l e R s m args below meth c H locs cells slots mc ms (F0 m pc ls st0) rest (va_Qf post B A1 a) (vx_X px BX AX) free) (hS : va_S A0 H0 H locs) (hA : ∀ q, q < H.size → A1 q → A0 q) (hf : ∀ q, free q → A0 q) (hAX : ∀ q, q < H.size → AX q → A0 q)
    (kx : ∀ (E : String) (ce : Cell) (q9 : Addr) (u : SX) (t : State) (H1 : Heap) (locs1 : List Loc), t.heap = H1 → s.vm.Alike t.vm → px u → BX E u t → H.size ≤ H1.size → (∀ q : Nat, q < H.size → ¬ AX q → H1[q]? = H[q]?) → va_S A0 H0 H1 locs1 → H1[q9]? = some ce → ce.vm = .none → s.vm.findClass E = some ce.cls → vx_W p l e R s m args below meth c H1 locs1 (cells + mc) (slots + ms) Q (F0 m pc ls rest) q9)
    (kk : ∀ (r : UInt32) (u : S) (t : State) (H1 : Heap) (locs1 : List Loc), t.heap = H1 → s.vm.Alike t.vm → post r u → B u t → H.size ≤ H1.size → (∀ q : Nat, q < H.size → ¬ A1 q → H1[q]? = H[q]?) → va_S A0 H0 H1 locs1 → W p l e R s m args below meth c H1 locs1 (cells + mc) (slots + ms) Q (F0 m (pc + 3) ls (.float r :: rest))) : W p l e R s m args below meth c H locs cells slots Q (F0 m pc ls st0) := by
  intro T hT X
  rcases hr T hT X with ⟨v, st₀, t, T', L, h0, X', hL, e1, e2, ⟨⟨r, u, hv, hp, hb⟩, hF⟩, st⟩ | ⟨q, st₀, t, T', L, E, ce, h0, X', hL, e1, e2, ⟨u, hp, hb, hF⟩, hce, hcv, hcl, st⟩
  · cases hv
    obtain ⟨k1, k2, k3⟩ := vx_keep h0 e1 hS hA hf hL hF
    obtain ⟨t2, a1, b1⟩ := kk r u t T'.heap (locs ++ L) e1.symm (by rw [← e2]; exact X'.warmed.alike) hp hb k1 k2 k3 T' rfl X'
    exact ⟨t2, st t2 a1, b1⟩
  · obtain ⟨k1, k2, k3⟩ := vx_keep h0 e1 hS hAX hf hL hF
    obtain ⟨t2, a1, b1⟩ := kx E ce q u t T'.heap (locs ++ L) e1.symm (by rw [← e2]; exact X'.warmed.alike) hp hb k1 k2 k3 (by rw [e1]; exact hce) hcv hcl T' rfl X'
    exact ⟨t2, st.trans a1, b1⟩
theorem vx_calld {S SX : Type} {post : UInt64 → S → Prop} {px : SX → Prop} {B : S → State → Prop} {BX : String → SX → State → Prop} {AX : Nat → Prop} (hr : vx_Run p l e R s m args below meth c H locs cells slots mc ms (F0 m pc ls st0) rest (va_Qd post B A1 a) (vx_X px BX AX) free) (hS : va_S A0 H0 H locs) (hA : ∀ q, q < H.size → A1 q → A0 q) (hf : ∀ q, free q → A0 q) (hAX : ∀ q, q < H.size → AX q → A0 q)
    (kx : ∀ (E : String) (ce : Cell) (q9 : Addr) (u : SX) (t : State) (H1 : Heap) (locs1 : List Loc), t.heap = H1 → s.vm.Alike t.vm → px u → BX E u t → H.size ≤ H1.size → (∀ q : Nat, q < H.size → ¬ AX q → H1[q]? = H[q]?) → va_S A0 H0 H1 locs1 → H1[q9]? = some ce → ce.vm = .none → s.vm.findClass E = some ce.cls → vx_W p l e R s m args below meth c H1 locs1 (cells + mc) (slots + ms) Q (F0 m pc ls rest) q9)
    (kk : ∀ (r : UInt64) (u : S) (t : State) (H1 : Heap) (locs1 : List Loc), t.heap = H1 → s.vm.Alike t.vm → post r u → B u t → H.size ≤ H1.size → (∀ q : Nat, q < H.size → ¬ A1 q → H1[q]? = H[q]?) → va_S A0 H0 H1 locs1 → W p l e R s m args below meth c H1 locs1 (cells + mc) (slots + ms) Q (F0 m (pc + 3) ls (.double r :: rest))) : W p l e R s m args below meth c H locs cells slots Q (F0 m pc ls st0) := by
  intro T hT X
  rcases hr T hT X with ⟨v, st₀, t, T', L, h0, X', hL, e1, e2, ⟨⟨r, u, hv, hp, hb⟩, hF⟩, st⟩ | ⟨q, st₀, t, T', L, E, ce, h0, X', hL, e1, e2, ⟨u, hp, hb, hF⟩, hce, hcv, hcl, st⟩
  · cases hv
    obtain ⟨k1, k2, k3⟩ := vx_keep h0 e1 hS hA hf hL hF
    obtain ⟨t2, a1, b1⟩ := kk r u t T'.heap (locs ++ L) e1.symm (by rw [← e2]; exact X'.warmed.alike) hp hb k1 k2 k3 T' rfl X'
    exact ⟨t2, st t2 a1, b1⟩
  · obtain ⟨k1, k2, k3⟩ := vx_keep h0 e1 hS hAX hf hL hF
    obtain ⟨t2, a1, b1⟩ := kx E ce q u t T'.heap (locs ++ L) e1.symm (by rw [← e2]; exact X'.warmed.alike) hp hb k1 k2 k3 (by rw [e1]; exact hce) hcv hcl T' rfl X'
    exact ⟨t2, st.trans a1, b1⟩
theorem vx_callv {S SX : Type} {post : S → Prop} {px : SX → Prop} {B : S → State → Prop} {BX : String → SX → State → Prop} {AX : Nat → Prop} (hr : vx_Run p l e R s m args below meth c H locs cells slots mc ms (F0 m pc ls st0) rest (va_Qv post B A1 a) (vx_X px BX AX) free) (hS : va_S A0 H0 H locs) (hA : ∀ q, q < H.size → A1 q → A0 q) (hf : ∀ q, free q → A0 q) (hAX : ∀ q, q < H.size → AX q → A0 q)
    (kx : ∀ (E : String) (ce : Cell) (q9 : Addr) (u : SX) (t : State) (H1 : Heap) (locs1 : List Loc), t.heap = H1 → s.vm.Alike t.vm → px u → BX E u t → H.size ≤ H1.size → (∀ q : Nat, q < H.size → ¬ AX q → H1[q]? = H[q]?) → va_S A0 H0 H1 locs1 → H1[q9]? = some ce → ce.vm = .none → s.vm.findClass E = some ce.cls → vx_W p l e R s m args below meth c H1 locs1 (cells + mc) (slots + ms) Q (F0 m pc ls rest) q9)
    (kk : ∀ (u : S) (t : State) (H1 : Heap) (locs1 : List Loc), t.heap = H1 → s.vm.Alike t.vm → post u → B u t → H.size ≤ H1.size → (∀ q : Nat, q < H.size → ¬ A1 q → H1[q]? = H[q]?) → va_S A0 H0 H1 locs1 → W p l e R s m args below meth c H1 locs1 (cells + mc) (slots + ms) Q (F0 m (pc + 3) ls (rest))) : W p l e R s m args below meth c H locs cells slots Q (F0 m pc ls st0) := by
  intro T hT X
  rcases hr T hT X with ⟨v, st₀, t, T', L, h0, X', hL, e1, e2, ⟨⟨u, hv, hp, hb⟩, hF⟩, st⟩ | ⟨q, st₀, t, T', L, E, ce, h0, X', hL, e1, e2, ⟨u, hp, hb, hF⟩, hce, hcv, hcl, st⟩
  · cases hv
    obtain ⟨k1, k2, k3⟩ := vx_keep h0 e1 hS hA hf hL hF
    obtain ⟨t2, a1, b1⟩ := kk u t T'.heap (locs ++ L) e1.symm (by rw [← e2]; exact X'.warmed.alike) hp hb k1 k2 k3 T' rfl X'
    exact ⟨t2, st t2 a1, b1⟩
  · obtain ⟨k1, k2, k3⟩ := vx_keep h0 e1 hS hAX hf hL hF
    obtain ⟨t2, a1, b1⟩ := kx E ce q u t T'.heap (locs ++ L) e1.symm (by rw [← e2]; exact X'.warmed.alike) hp hb k1 k2 k3 (by rw [e1]; exact hce) hcv hcl T' rfl X'
    exact ⟨t2, st.trans a1, b1⟩
/-- caught by the row x of this method's table; the rows ahead don't take it -/
theorem vx_catch {own name : String} {E : String} {ce : Cell} {q : Addr} (hown : s.vm.findClass own = some m.cls) (pre : List ExceptionTableEntry) (x : ExceptionTableEntry) (suf : List ExceptionTableEntry) (hsplit : c.exceptionTable.toList = pre ++ x :: suf)
    (hpass : ∀ z ∈ pre, covers z pc = false ∨ (z.catchType ≠ 0 ∧ ∃ nm : String, (Cond.classLink own z.catchType nm).before args s = true ∧ va_Nc E nm s)) (hx : covers x pc = true) (h0 : x.catchType ≠ 0)
    (hlink : (Cond.classLink own x.catchType name).before args s = true) (hcast : (Cond.castable E name).before args s = true) (hcell : H[q]? = some ce) (hv : ce.vm = .none) (hcl : s.vm.findClass E = some ce.cls)
    (kk : W p l e R s m args below meth c H locs cells slots Q (F0 m x.handlerPc ls [.ref q])) : vx_W p l e R s m args below meth c H locs cells slots Q (F0 m pc ls rest) q := by
  intro T hT X
  have hpl : e.platform.magicAccessors = ({} : Platform).magicAccessors := by rw [X.admits.platform]
  obtain ⟨c3, c4, hc3, hc4, hasg⟩ := Cond.castable_spec hcast
  cases Option.some.inj (hc3.symm.trans hcl)
  obtain ⟨c5, hc5, hcl5⟩ := Cond.classLink_spec hown hlink e.platform hpl
  cases Option.some.inj (hc4.symm.trans hc5)
  obtain ⟨vm', X', st⟩ := X.thenCaughtThrough q (g := F0 m pc ls rest) rfl (Steps.refl _) (by rw [hT]; exact hcell) (by rw [hv]; rfl) (by obtain ⟨k9, h9, -⟩ := Vm.findClass_spec hcl; exact ⟨k9, h9⟩) pre x suf hsplit
    (fun z hz => by
      rcases hpass z hz with h | ⟨hz0, nm, hl1, hn1⟩
      · exact Or.inl h
      · obtain ⟨c6, hc6, hcl6⟩ := Cond.classLink_spec hown hl1 e.platform hpl
        obtain ⟨a8, b8, h1, h2, h3⟩ := hn1
        cases Option.some.inj (h1.symm.trans hcl)
        cases Option.some.inj (h2.symm.trans hc6)
        exact Or.inr ⟨hz0, _, hcl6, h3⟩) hx (Or.inr ⟨h0, c4, hcl5, hasg⟩)
  obtain ⟨t, a1, b1⟩ := kk (T.setVm vm') hT X'
  exact ⟨t, st.trans a1, b1⟩
end Rows
section Ends
variable {p : Program} {l : Launch} {e : Env} {R : Room} {s : State} {m : MethodId} {args : Array Value} {below : List Frame} {meth : Method} {c : Code} {H : Heap} {locs : List Loc} {cells slots : Nat} {Q : State → Prop}
variable {mc ms : Nat} {free : Addr → Prop} {A0 A1 : Nat → Prop} {H0 : Heap} {a : Array Value} {ls : Array Slot} {st0 rest : List Value}
variable {Qc : Array Value → State → Outcome → State → Prop} {XC : String → State → State → Prop}
/-- what a body that may throw owes at its end -/
def vx_MQ (below : List Frame) (Qc : Array Value → State → Outcome → State → Prop) (XC : String → State → State → Prop) (a : Array Value) (s : State) (mc ms : Nat) (free : Addr → Prop) : State → Prop := fun t =>
  ∃ o, t.status = .running ∧ Ended t below o ∧ vx_Q Qc XC mc ms free a s o t
theorem vx_ret {g : JFrame} {mc ms : Nat} (k : W p l e R s m args below meth c H locs cells slots (MQ below Qc args s mc ms free) g) : W p l e R s m args below meth c H locs cells slots (vx_MQ below Qc XC args s mc ms free) g := by
  intro T hT X
  obtain ⟨t, a1, o, b1, b2, b3, b4⟩ := k T hT X
  exact ⟨t, a1, o, b1, b2, Or.inl ⟨b3, b4⟩⟩
/-- not caught here: it goes on to the caller -/
theorem vx_widen {g : JFrame} {q : Addr} {k n : Nat} (h1 : cells ≤ k) (h2 : slots ≤ n) (kk : vx_W p l e R s m args below meth c H locs k n Q g q) : vx_W p l e R s m args below meth c H locs cells slots Q g q := fun T hT X => kk T hT (stand_widen X h1 h2)
theorem vx_out {pc : Nat} {E : String} {ce : Cell} {q : Addr} {mc ms : Nat} (hout : ∀ x ∈ c.exceptionTable.toList, covers x pc = false) (hlocks : meth.locks = false) (hcell : H[q]? = some ce) (hv : ce.vm = .none) (hcl : s.vm.findClass E = some ce.cls)
    (hx : ∀ t : State, t.heap = H → s.vm.Alike t.vm → XC E s t) (hf : ∀ z ∈ locs, free z.base) (hc : cells ≤ mc) (hs : slots ≤ ms) :
    vx_W p l e R s m args below meth c H locs cells slots (vx_MQ below Qc XC args s mc ms free) (F0 m pc ls rest) q := by
  intro T hT X
  obtain ⟨st1, hrun, hend, hW, hsm⟩ := X.leaveThrown q (g := F0 m pc ls rest) rfl rfl rfl hout hlocks
  have hcell9 : (T.setFrames (.throwing q :: below)).heap[q]? = some ce := by
    show T.heap[q]? = some ce
    rw [hT]; exact hcell
  exact ⟨_, st1, .threw q, hrun, hend, Or.inr ⟨q, rfl, E, ce, locs, hx _ hT hW.alike, hcell9, hv, hcl, hW, hsm.mono hc hs, hf⟩⟩
theorem vx_frame {U : State} {k n : Nat} (h : s.sameButNew ({ U with vm := s.vm } : State) locs k n) : s.heap.size ≤ U.heap.size ∧ ∀ q : Nat, q < s.heap.size → (∀ z ∈ locs, z.base ≠ q) → U.heap[q]? = s.heap[q]? := by
  obtain ⟨-, h2, -, -, -, h6⟩ := h
  refine ⟨h2, fun q hq hz => ?_⟩
  obtain ⟨c9, e1, e2, e3, e4⟩ := h6 q _ (Array.getElem?_eq_getElem hq)
  have hs : c9.slots = (s.heap[q]).slots := Array.ext_getElem? fun i => e4 i fun hm => hz _ hm rfl
  have h9 : c9 = s.heap[q] := by
    rw [hs] at e2
    exact e2
  have e5 : U.heap[q]? = some c9 := e1
  rw [e5, h9, Array.getElem?_eq_getElem hq]
/-- the words of a throw but the four that speak of the heap -/
def vx_no (w : Cond) : Bool := decide (w ≠ .isRef (.static Bundle.tN "UNASSIGNED_STACK" Bundle.steD)) && decide (w ≠ .isRef (.static Bundle.tN "SUPPRESSED_SENTINEL" Bundle.listD)) && decide (w ≠ .laysStatic Bundle.tN "UNASSIGNED_STACK" Bundle.steD) && decide (w ≠ .laysStatic Bundle.tN "SUPPRESSED_SENTINEL" Bundle.listD)
def vx_at0 (own : String) (ic : Nat) (X : String) (names : List String) : List Cond := (Bundle.ownAtoms0 own ic X names).filter vx_no
def vx_atS (own : String) (ic : Nat) (X : String) (names : List String) : List Cond := (Bundle.ownAtoms own ic X names).filter vx_no
/-- a word that the tables alone decide, or a good one -/
def vx_ot (w : Cond) : Bool := w.onTables || goodWord w
theorem vx_ot_at {args a' : Array Value} {s U : State} {w : Cond} (hW : s.WarmedH U.vm) (hvm : s.vm = U.vm) (hg : vx_ot w = true) (h : w.before args s = true) : w.before a' U = true := by
  simp only [vx_ot, Bool.or_eq_true] at hg
  rcases hg with hg | hg
  · exact va_tabs hg hvm h
  · exact word_at hW (good_of_word hg) h
/-- a list's words: the good ones out of the method's own list, the others by premises of their own -/
theorem vx_hat {args : Array Value} {s : State} {L B : List Cond} (h1 : ∀ w ∈ L.filter goodWord, w.before args s = true) (h2 : ∀ w ∈ L.filter (fun w => !goodWord w), w ∈ B) (h3 : ∀ w ∈ B, w.before args s = true) : ∀ w ∈ L, w.before args s = true := by
  intro w hw
  by_cases g : goodWord w = true
  · exact h1 w (List.mem_filter.mpr ⟨hw, g⟩)
  · refine h3 w (h2 w (List.mem_filter.mpr ⟨hw, ?_⟩))
    show (!goodWord w) = true
    cases hgw : goodWord w
    · rfl
    · exact absurd hgw g
theorem vx_c {args : Array Value} {s : State} {w : Cond} {B : List Cond} (h : w.before args s = true) (t : ∀ w ∈ B, w.before args s = true) : ∀ w' ∈ w :: B, w'.before args s = true := fun w' h' => (List.mem_cons.mp h').elim (fun e => by rw [e]; exact h) (t w')
theorem vx_n {args : Array Value} {s : State} : ∀ w ∈ ([] : List Cond), w.before args s = true := fun _ h => nomatch h
theorem vx_own {args : Array Value} {s : State} {L : List Cond} (h1 : ∀ w ∈ L.filter vx_no, w.before args s = true)
    (hU : (Cond.isRef (.static Bundle.tN "UNASSIGNED_STACK" Bundle.steD)).before args s = true) (hN : (Cond.isRef (.static Bundle.tN "SUPPRESSED_SENTINEL" Bundle.listD)).before args s = true)
    (lU : (Cond.laysStatic Bundle.tN "UNASSIGNED_STACK" Bundle.steD).before args s = true) (lN : (Cond.laysStatic Bundle.tN "SUPPRESSED_SENTINEL" Bundle.listD).before args s = true) : ∀ w ∈ L, w.before args s = true := by
  intro w hw
  by_cases e1 : w = .isRef (.static Bundle.tN "UNASSIGNED_STACK" Bundle.steD)
  · rw [e1]; exact hU
  · by_cases e2 : w = .isRef (.static Bundle.tN "SUPPRESSED_SENTINEL" Bundle.listD)
    · rw [e2]; exact hN
    · by_cases e3 : w = .laysStatic Bundle.tN "UNASSIGNED_STACK" Bundle.steD
      · rw [e3]; exact lU
      · by_cases e4 : w = .laysStatic Bundle.tN "SUPPRESSED_SENTINEL" Bundle.listD
        · rw [e4]; exact lN
        · exact h1 w (List.mem_filter.mpr ⟨hw, by unfold vx_no; rw [decide_eq_true e1, decide_eq_true e2, decide_eq_true e3, decide_eq_true e4]; rfl⟩)
/-- where a static field lies, its class's statics cell in H -/
def vx_L (C n d : String) (A : Nat → Prop) (U : State) (H : Heap) : Prop := ∃ (c : ClassId) (k : Class) (i : Nat) (f : Field) (a : Nat) (cell : Cell), U.vm.findClass C = some c ∧ U.fieldFound? C n d = some (c, k, i, f) ∧ f.isStatic = true ∧ k.statics = some a ∧ H[a]? = some cell ∧ cell.vm.isStatics = true ∧ cell.cls = c ∧ f.slot < cell.slots.size ∧ k.staticTypes[f.slot]? = some f.type ∧ ¬ A a
theorem vx_L.moved {C n d : String} {A : Nat → Prop} {u U : State} {H : Heap} (hvm : u.vm.Alike U.vm) (h : vx_L C n d A u H) : vx_L C n d A U H := by
  obtain ⟨c, k, i, f, a, cell, h1, h2, h3, h4, h5, h6, h7, h8, h9, h10⟩ := h
  obtain ⟨k', hi', he⟩ := State.fieldFound?_setVm hvm h2
  exact ⟨c, k', i, f, a, cell, by rw [hvm.findClass]; exact h1, hi', h3, by rw [he]; exact h4, h5, h6, h7, h8, by rw [he]; exact h9, h10⟩
theorem vx_L.kept {C n d : String} {A : Nat → Prop} {U : State} {H H1 : Heap} (h : vx_L C n d A U H) (hq : ∀ a : Nat, a < H.size → ¬ A a → H1[a]? = H[a]?) : vx_L C n d A U H1 := by
  obtain ⟨c, k, i, f, a, cell, h1, h2, h3, h4, h5, h6, h7, h8, h9, h10⟩ := h
  exact ⟨c, k, i, f, a, cell, h1, h2, h3, h4, by rw [hq a (Array.getElem?_eq_some_iff.mp h5).1 h10]; exact h5, h6, h7, h8, h9, h10⟩
theorem vx_L.narrow {C n d : String} {A B : Nat → Prop} {U : State} {H : Heap} (h : vx_L C n d A U H) (hAB : ∀ q, B q → A q) : vx_L C n d B U H := by
  obtain ⟨c, k, i, f, a, cell, h1, h2, h3, h4, h5, h6, h7, h8, h9, h10⟩ := h
  exact ⟨c, k, i, f, a, cell, h1, h2, h3, h4, h5, h6, h7, h8, h9, fun z => h10 (hAB _ z)⟩
theorem vx_L.word {C n d : String} {A : Nat → Prop} {s : State} {args : Array Value} (h : vx_L C n d A s s.heap) : (Cond.laysStatic C n d).before args s = true := by
  obtain ⟨c, k, i, f, a, cell, h1, h2, h3, h4, h5, h6, h7, h8, h9, -⟩ := h
  show (Cond.laysStatic C n d).holds args s none s [] = true
  exact Cond.laysStatic_of h1 h2 h3 h4 h5 h6 h7 h8 h9
/-- .. and what it holds: null or some reference -/
def vx_Zq (C n d : String) (A : Nat → Prop) (U : State) (H : Heap) : Prop := va_Zq C n d A U H ∧ vx_L C n d A U H
theorem vx_Zq.moved {C n d : String} {A : Nat → Prop} {u U : State} {H : Heap} (hvm : u.vm.Alike U.vm) (h : vx_Zq C n d A u H) : vx_Zq C n d A U H := ⟨va_Zq.moved hvm h.1, vx_L.moved hvm h.2⟩
theorem vx_Zq.kept {C n d : String} {A : Nat → Prop} {U : State} {H H1 : Heap} (h : vx_Zq C n d A U H) (hq : ∀ a : Nat, a < H.size → ¬ A a → H1[a]? = H[a]?) : vx_Zq C n d A U H1 := ⟨va_Zq.kept h.1 hq, vx_L.kept h.2 hq⟩
theorem vx_Zq.narrow {C n d : String} {A B : Nat → Prop} {U : State} {H : Heap} (h : vx_Zq C n d A U H) (hAB : ∀ q, B q → A q) : vx_Zq C n d B U H := ⟨va_Zq.narrow h.1 hAB, vx_L.narrow h.2 hAB⟩
theorem vx_Zqof {args : Array Value} {s : State} {C n d : String} {A : Nat → Prop} (hl : (Cond.laysStatic C n d).before args s = true) (hini : (Cond.initialized C).before args s = true) (h : (Cond.isRef (.static C n d)).before args s = true) (hA : ∀ a : Nat, a < s.heap.size → ¬ A a) : vx_Zq C n d A s s.heap := by
  refine ⟨va_Zqof hl hini h hA, ?_⟩
  obtain ⟨c, k, i, f, a, cell, h1, h2, h3, h4, h5, h6, h7, h8, h9⟩ := Cond.laysStatic_spec hl
  exact ⟨c, k, i, f, a, cell, h1, h2, h3, h4, h5, h6, h7, h8, h9, hA a (Array.getElem?_eq_some_iff.mp h5).1⟩
theorem vx_isRef {C n d : String} {v : Value} {A : Nat → Prop} {s : State} {args : Array Value} (h : va_Z C n d v A s s.heap) (hv : v.isRef = true) : (Cond.isRef (.static C n d)).before args s = true := by
  obtain ⟨cf, kf, fi, f, a, cell, h1, h2, h3, h4, h5, h6, h7, -⟩ := h
  have he : (Term.static C n d).eval args s none [] s = some v := by
    simp [Term.eval, State.fieldNamed?, h1, h2, h4, h5, h6, h7]
  simp only [Cond.before, Cond.holds, Cond.value, he]
  cases v <;> simp_all [Value.isRef]
theorem vx_isRefq {C n d : String} {A : Nat → Prop} {s : State} {args : Array Value} (h : va_Zq C n d A s s.heap) : (Cond.isRef (.static C n d)).before args s = true := by
  rcases h with h | ⟨t, h⟩
  · exact vx_isRef h rfl
  · exact vx_isRef h rfl
/-- the same frame, seen from here: as if the method were called anew in this heap -/
theorem vx_rebase {T : State} (X : Stand p l e R s m args below meth c T locs cells slots) {R' : Room} (hf : R'.frames ≤ R.frames) (hl : R'.locals ≤ R.locals) (hc : cells + R'.cells ≤ R.cells) (hs : slots + R'.slots ≤ R.slots) :
    Stand p l e R' ((T.setVm s.vm).setFrames (.invoking m args :: below)) m args below meth c T [] 0 0 := by
  have htop : (T.setVm s.vm).topJava?.isSome := X.here.top
  have hF : ((T.setVm s.vm).setFrames (.invoking m args :: below)).frames = .invoking m args :: below := State.frames_setFrames _ (State.cur_lt_of_top htop)
  obtain ⟨g₀, hg0⟩ := Option.isSome_iff_exists.mp htop
  obtain ⟨r, hr⟩ := State.topJava?_eq_some.mp hg0
  have hl9 : e.platform.stackLimits (T.setVm s.vm).me = e.platform.stackLimits s.me := X.limits
  have hb9 : (T.setVm s.vm).me.stackBytes = s.me.stackBytes := X.bytes
  refine ⟨X.admits, X.cas, X.clock, hF, ?_, X.hears, X.method, X.code, X.here, X.tail, X.warmed, ?_, ?_, ?_⟩
  · have h := X.room
    have hU : ((T.setVm s.vm).setFrames (.invoking m args :: below)).localsInUse = s.localsInUse := by
      rw [State.localsInUse_invoking hF (meth := meth) (c := c) X.method X.code, State.localsInUse_invoking X.frames X.method X.code]
    simp only [State.hasRoom, Bool.and_eq_true, decide_eq_true_eq] at h ⊢
    obtain ⟨⟨⟨⟨h1, h2, h3, h4, h5, h6⟩, h7⟩, h8⟩, h9⟩ := h
    rw [X.frames, List.length_cons] at h2 h3
    have q1 := X.heapSize
    have q2 := X.used
    simp only [hF, hU, List.length_cons, State.stackLimits_setFrames, State.stackBytes_setFrames, hl9, hb9]
    refine ⟨⟨⟨⟨by omega, by omega, by omega, by omega, by omega, h6⟩, ?_⟩, ?_⟩, X.book⟩
    · show T.heap.size + R'.cells ≤ e.platform.maxCells
      omega
    · show T.slotsUsed + R'.slots ≤ e.platform.maxSlots
      omega
  · rw [State.stackLimits_setFrames]; rfl
  · rw [State.stackBytes_setFrames]; rfl
  · refine ⟨?_, Nat.le_refl _, Nat.le_refl _, ?_, ?_, fun a c9 h9 => ⟨c9, h9, rfl, rfl, fun _ _ => rfl⟩⟩
    · obtain ⟨t, ht, -⟩ := State.frames_cons hr
      show T.setVm s.vm = { ((T.setVm s.vm).setFrames (.invoking m args :: below)).setFrames (T.setVm s.vm).frames with heap := T.heap, slotsUsed := T.slotsUsed }
      rw [State.setFrames_setFrames, State.setFrames_self ht]
      rfl
    · show T.slotsUsed = T.slotsUsed + ((T.heap.toList.drop T.heap.size).map (·.slots.size)).sum
      rw [List.drop_eq_nil_of_le (Nat.le_of_eq Array.length_toList)]
      rfl
    · show ((T.heap.toList.drop T.heap.size).map (·.slots.size)).sum ≤ 0
      rw [List.drop_eq_nil_of_le (Nat.le_of_eq Array.length_toList)]
      exact Nat.le_refl _
/-- 'throw new E()': new; dup; invokespecial; athrow -/
theorem vx_throw0 {cc : ByteArray} {pc : Nat} (hexec : p.tables.exec = Jvm.exec) (hb : c.code = cc) (hl : l.stackTraces = false) {own cls : String} {names : List String} {ik ic mc ms : Nat} {A : Nat → Prop}
    (hown : s.vm.findClass own = some m.cls) (hcls : Bundle.fit cls = true) (hnames : ∀ n ∈ names, Bundle.fit n = true)
    (hk : (Cond.classLink own ik cls).before args s = true) (hini : (Cond.initialized cls).before args s = true) (hat : ∀ w ∈ vx_at0 own ic cls names, w.before args s = true)
    (hgood : ∀ w ∈ Cond.classLink own ik cls :: Cond.initialized cls :: vx_at0 own ic cls names, vx_ot w = true)
    (hU : vx_Zq Bundle.tN "UNASSIGNED_STACK" Bundle.steD A s s.heap) (hN : vx_Zq Bundle.tN "SUPPRESSED_SENTINEL" Bundle.listD A s s.heap) (hS : va_S A s.heap H locs) (hsize : ls.size = c.maxLocals)
    (d0 : decode cc pc = .ok (.new ik, 3)) (d3 : decode cc (pc + 3) = .ok (.dup, 1)) (d4 : decode cc (pc + 4) = .ok (.invokespecial ic, 3)) (d7 : decode cc (pc + 7) = .ok (.athrow, 1))
    (hout : ∀ x ∈ c.exceptionTable.toList, covers x (pc + 7) = false)
    (hRframes : names.length + 3 < R.frames) (hRlocals : (rest.map fun v => v.category).sum + (13 * (names.length + 1) + 42) ≤ R.locals) (hRcells : cells + 1 ≤ R.cells) (hRslots : slots + 6 ≤ R.slots) (hlocks : meth.locks = false)
    (hx : ∀ t : State, s.vm.Alike t.vm → H.size ≤ t.heap.size → (∀ q : Nat, q < H.size → t.heap[q]? = H[q]?) → XC cls s t)
    (hf : ∀ z ∈ locs, free z.base) (hc : cells + 1 ≤ mc) (hs : slots + 6 ≤ ms) :
    W p l e R s m args below meth c H locs cells slots (vx_MQ below Qc XC args s mc ms free) (F0 m pc ls rest) := by
  intro T hT X
  have htr : e.platform.stackTraces = false := (show e.platform.stackTraces = l.stackTraces by rw [X.admits.platform]).trans hl
  have Y := vx_rebase X (R' := { frames := R.frames, locals := R.locals, cells := 1, slots := 6 }) (Nat.le_refl _) (Nat.le_refl _) hRcells hRslots
  obtain ⟨s', hA⟩ : ∃ z, z = (T.setVm s.vm).setFrames (.invoking m args :: below) := ⟨_, rfl⟩
  rw [← hA] at Y
  have hvm : s'.vm = s.vm := by rw [hA]; rfl
  have hhp : s'.heap = H := by rw [hA]; exact hT
  have hW0 : s.WarmedH s'.vm := by rw [hvm]; exact State.WarmedH.refl s
  have hat' : ∀ w ∈ vx_at0 own ic cls names, w.before args s' = true := fun w hw => vx_ot_at hW0 hvm.symm (hgood w (List.mem_cons_of_mem _ (List.mem_cons_of_mem _ hw))) (hat w hw)
  have hk' : (Cond.classLink own ik cls).before args s' = true := vx_ot_at hW0 hvm.symm (hgood _ List.mem_cons_self) hk
  have hini' : (Cond.initialized cls).before args s' = true := vx_ot_at hW0 hvm.symm (hgood _ (List.mem_cons_of_mem _ List.mem_cons_self)) hini
  have hU' : vx_Zq Bundle.tN "UNASSIGNED_STACK" Bundle.steD A s' s'.heap := by rw [hhp]; exact vx_Zq.moved hW0.alike (hU.kept hS.2.1)
  have hN' : vx_Zq Bundle.tN "SUPPRESSED_SENTINEL" Bundle.listD A s' s'.heap := by rw [hhp]; exact vx_Zq.moved hW0.alike (hN.kept hS.2.1)
  have h : ∀ w ∈ Bundle.ownAtoms0 own ic cls names, w.before args s' = true := vx_own hat' (vx_isRefq hU'.1) (vx_isRefq hN'.1) hU'.2.word hN'.2.word
  have hown' : s'.vm.findClass own = some m.cls := by rw [hvm]; exact hown
  have hins : (Cond.instantiable cls 6).before args s' = true := h _ (by simp [Bundle.ownAtoms0])
  obtain ⟨vm₁, cX, kX, hfX, hkX, -, -, X₁, st1⟩ := Y.newCold hexec (own := own) (C := cls) (index := ik) (n := 6) hown' hk' hins hini'
    (g := F0 m pc ls rest) rfl (by rw [hb]; exact d0) (Nat.le_refl _) (Nat.le_refl _)
  generalize hT1 : (T.setVm vm₁).pushCell { cls := cX, slots := kX.instanceTypes.map defaultValue, vm := .none } = T1 at X₁ st1
  have hcat : (Value.ref T.heap.size).category = 1 := rfl
  have hcellA : T1.heap[T.heap.size]? = some (freshCell cX kX) := by rw [← hT1]; exact State.heap_pushCell_size _ _
  have d3' : decode c.code (pc + 3) = .ok (.dup, 1) := by rw [hb]; exact d3
  obtain ⟨U, hsteps, hrun, hend, hW, hsame, ce, hce, hO⟩ := X₁.ctorThrow0 hexec htr (own := own) (cls := cls) (names := names) (ic := ic) hown' hcls hnames h (fun x hx => nomatch hx) hfX hkX hcellA (by rw [hhp, hT]; exact Nat.le_refl _)
    (g := { method := m, pc := pc + 4, locals := ls, stack := .ref T.heap.size :: .ref T.heap.size :: rest, locked := none }) rfl hsize rfl rfl (rest := rest) rfl
    (by rw [hb]; exact d4) (by rw [hb]; exact d7) hout hRframes (by simp only [List.map_cons, List.sum_cons, hcat]; omega) hlocks
  obtain ⟨f1, f2⟩ := vx_frame hsame
  rw [hhp] at f1 f2
  have hWs : s.WarmedH U.vm := State.WarmedH.trans hW0 hW
  have hcl : s.vm.findClass cls = some ce.cls := by
    have h9 := hO.cls
    rw [hvm] at h9
    exact h9
  have hall : s.sameButNew ({ U with vm := s.vm } : State) locs mc ms := by
    subst hA
    obtain ⟨e1, e2⟩ := hsame
    rw [State.setFrames_setFrames] at e1
    have h2 : (T.setVm s.vm).sameButNew ({ U with vm := s.vm } : State) [] (0 + 1) (0 + 6) := ⟨e1, e2⟩
    have h3 := X.same.trans h2
    rw [List.append_nil] at h3
    exact h3.mono hc hs
  refine ⟨U, ?_, .threw T.heap.size, hrun, hend, Or.inr ⟨T.heap.size, rfl, cls, ce, locs, hx U hWs.alike f1 (fun q hq => f2 q hq (fun z hz => nomatch hz)), hce, hO.vm, hcl, hWs, hall, hf⟩⟩
  refine st1 _ ?_
  show Steps p.tables e below (T1.setTop { method := m, pc := pc + 3, locals := ls, stack := .ref T.heap.size :: rest, locked := none }) _
  jvm_step X₁.here [X₁.here.top, hexec, d3', Value.category]
  exact hsteps
/-- 'throw new E("text")': new; dup; ldc; invokespecial; athrow -/
theorem vx_throwS {cc : ByteArray} {pc : Nat} (hexec : p.tables.exec = Jvm.exec) (hb : c.code = cc) (hl : l.stackTraces = false) {own cls text : String} {names : List String} {ik is ic mc ms sa : Nat} {A : Nat → Prop}
    (hown : s.vm.findClass own = some m.cls) (hcls : Bundle.fit cls = true) (hnames : ∀ n ∈ names, Bundle.fit n = true)
    (hk : (Cond.classLink own ik cls).before args s = true) (hini : (Cond.initialized cls).before args s = true) (hstr : vk_R own is text sa s) (hat : ∀ w ∈ vx_atS own ic cls names, w.before args s = true)
    (hgood : ∀ w ∈ Cond.classLink own ik cls :: Cond.initialized cls :: vx_atS own ic cls names, vx_ot w = true)
    (hU : vx_Zq Bundle.tN "UNASSIGNED_STACK" Bundle.steD A s s.heap) (hN : vx_Zq Bundle.tN "SUPPRESSED_SENTINEL" Bundle.listD A s s.heap) (hS : va_S A s.heap H locs) (hsize : ls.size = c.maxLocals)
    (d0 : decode cc pc = .ok (.new ik, 3)) (d3 : decode cc (pc + 3) = .ok (.dup, 1)) (d4 : decode cc (pc + 4) = .ok (.ldc is, 2)) (d6 : decode cc (pc + 6) = .ok (.invokespecial ic, 3)) (d9 : decode cc (pc + 9) = .ok (.athrow, 1))
    (hout : ∀ x ∈ c.exceptionTable.toList, covers x (pc + 9) = false)
    (hRframes : names.length + 3 < R.frames) (hRlocals : (rest.map fun v => v.category).sum + (13 * (names.length + 1) + 43) ≤ R.locals) (hRcells : cells + 1 ≤ R.cells) (hRslots : slots + 6 ≤ R.slots) (hlocks : meth.locks = false)
    (hx : ∀ t : State, s.vm.Alike t.vm → H.size ≤ t.heap.size → (∀ q : Nat, q < H.size → t.heap[q]? = H[q]?) → XC cls s t)
    (hf : ∀ z ∈ locs, free z.base) (hc : cells + 1 ≤ mc) (hs : slots + 6 ≤ ms) :
    W p l e R s m args below meth c H locs cells slots (vx_MQ below Qc XC args s mc ms free) (F0 m pc ls rest) := by
  intro T hT X
  have htr : e.platform.stackTraces = false := (show e.platform.stackTraces = l.stackTraces by rw [X.admits.platform]).trans hl
  have Y := vx_rebase X (R' := { frames := R.frames, locals := R.locals, cells := 1, slots := 6 }) (Nat.le_refl _) (Nat.le_refl _) hRcells hRslots
  obtain ⟨s', hA⟩ : ∃ z, z = (T.setVm s.vm).setFrames (.invoking m args :: below) := ⟨_, rfl⟩
  rw [← hA] at Y
  have hvm : s'.vm = s.vm := by rw [hA]; rfl
  have hhp : s'.heap = H := by rw [hA]; exact hT
  have hW0 : s.WarmedH s'.vm := by rw [hvm]; exact State.WarmedH.refl s
  have hat' : ∀ w ∈ vx_atS own ic cls names, w.before args s' = true := fun w hw => vx_ot_at hW0 hvm.symm (hgood w (List.mem_cons_of_mem _ (List.mem_cons_of_mem _ hw))) (hat w hw)
  have hk' : (Cond.classLink own ik cls).before args s' = true := vx_ot_at hW0 hvm.symm (hgood _ List.mem_cons_self) hk
  have hini' : (Cond.initialized cls).before args s' = true := vx_ot_at hW0 hvm.symm (hgood _ (List.mem_cons_of_mem _ List.mem_cons_self)) hini
  have hU' : vx_Zq Bundle.tN "UNASSIGNED_STACK" Bundle.steD A s' s'.heap := by rw [hhp]; exact vx_Zq.moved hW0.alike (hU.kept hS.2.1)
  have hN' : vx_Zq Bundle.tN "SUPPRESSED_SENTINEL" Bundle.listD A s' s'.heap := by rw [hhp]; exact vx_Zq.moved hW0.alike (hN.kept hS.2.1)
  have h : ∀ w ∈ Bundle.ownAtoms own ic cls names, w.before args s' = true := vx_own hat' (vx_isRefq hU'.1) (vx_isRefq hN'.1) hU'.2.word hN'.2.word
  have hown' : s'.vm.findClass own = some m.cls := by rw [hvm]; exact hown
  have hins : (Cond.instantiable cls 6).before args s' = true := h _ (by simp [Bundle.ownAtoms])
  obtain ⟨vm₁, cX, kX, hfX, hkX, -, -, X₁, st1⟩ := Y.newCold hexec (own := own) (C := cls) (index := ik) (n := 6) hown' hk' hins hini'
    (g := F0 m pc ls rest) rfl (by rw [hb]; exact d0) (Nat.le_refl _) (Nat.le_refl _)
  generalize hT1 : (T.setVm vm₁).pushCell { cls := cX, slots := kX.instanceTypes.map defaultValue, vm := .none } = T1 at X₁ st1
  have hcat : (Value.ref T.heap.size).category = 1 := rfl
  have hcellA : T1.heap[T.heap.size]? = some (freshCell cX kX) := by rw [← hT1]; exact State.heap_pushCell_size _ _
  have d3' : decode c.code (pc + 3) = .ok (.dup, 1) := by rw [hb]; exact d3
  have d4' : decode c.code (pc + 4) = .ok (.ldc is, 2) := by rw [hb]; exact d4
  have hstr' : vk_R own is text sa s' := vk_R.warm hW0 hstr
  obtain ⟨U, hsteps, hrun, hend, hW, hsame, ce, hce, hO⟩ := X₁.ctorThrowS hexec htr (own := own) (cls := cls) (names := names) (ic := ic) hown' hcls hnames h (fun x hx => nomatch hx) hfX hkX hcellA (by rw [hhp, hT]; exact Nat.le_refl _) (msg := .ref sa) rfl
    (g := { method := m, pc := pc + 6, locals := ls, stack := .ref sa :: .ref T.heap.size :: .ref T.heap.size :: rest, locked := none }) rfl hsize rfl rfl (rest := rest) rfl
    (by rw [hb]; exact d6) (by rw [hb]; exact d9) hout hRframes (by simp only [List.map_cons, List.sum_cons, hcat]; omega) hlocks
  obtain ⟨f1, f2⟩ := vx_frame hsame
  rw [hhp] at f1 f2
  have hWs : s.WarmedH U.vm := State.WarmedH.trans hW0 hW
  have hcl : s.vm.findClass cls = some ce.cls := by
    have h9 := hO.cls
    rw [hvm] at h9
    exact h9
  have hall : s.sameButNew ({ U with vm := s.vm } : State) locs mc ms := by
    subst hA
    obtain ⟨e1, e2⟩ := hsame
    rw [State.setFrames_setFrames] at e1
    have h2 : (T.setVm s.vm).sameButNew ({ U with vm := s.vm } : State) [] (0 + 1) (0 + 6) := ⟨e1, e2⟩
    have h3 := X.same.trans h2
    rw [List.append_nil] at h3
    exact h3.mono hc hs
  refine ⟨U, ?_, .threw T.heap.size, hrun, hend, Or.inr ⟨T.heap.size, rfl, cls, ce, locs, hx U hWs.alike f1 (fun q hq => f2 q hq (fun z hz => nomatch hz)), hce, hO.vm, hcl, hWs, hall, hf⟩⟩
  refine st1 _ ?_
  show Steps p.tables e below (T1.setTop { method := m, pc := pc + 3, locals := ls, stack := .ref T.heap.size :: rest, locked := none }) _
  jvm_step X₁.here [X₁.here.top, hexec, d3', Value.category]
  exact X₁.ldcString hexec (own := own) (text := text) (index := is) (a := sa) hown' hstr'.1 hstr'.2
    (g := { method := m, pc := pc + 4, locals := ls, stack := .ref T.heap.size :: .ref T.heap.size :: rest, locked := none }) rfl d4' _ hsteps
/-- 'throw new E("text")', the text by a wide index -/
theorem vx_throwSW {cc : ByteArray} {pc : Nat} (hexec : p.tables.exec = Jvm.exec) (hb : c.code = cc) (hl : l.stackTraces = false) {own cls text : String} {names : List String} {ik is ic mc ms sa : Nat} {A : Nat → Prop}
    (hown : s.vm.findClass own = some m.cls) (hcls : Bundle.fit cls = true) (hnames : ∀ n ∈ names, Bundle.fit n = true)
    (hk : (Cond.classLink own ik cls).before args s = true) (hini : (Cond.initialized cls).before args s = true) (hstr : vk_R own is text sa s) (hat : ∀ w ∈ vx_atS own ic cls names, w.before args s = true)
    (hgood : ∀ w ∈ Cond.classLink own ik cls :: Cond.initialized cls :: vx_atS own ic cls names, vx_ot w = true)
    (hU : vx_Zq Bundle.tN "UNASSIGNED_STACK" Bundle.steD A s s.heap) (hN : vx_Zq Bundle.tN "SUPPRESSED_SENTINEL" Bundle.listD A s s.heap) (hS : va_S A s.heap H locs) (hsize : ls.size = c.maxLocals)
    (d0 : decode cc pc = .ok (.new ik, 3)) (d3 : decode cc (pc + 3) = .ok (.dup, 1)) (d4 : decode cc (pc + 4) = .ok (.ldc_w is, 3)) (d7 : decode cc (pc + 7) = .ok (.invokespecial ic, 3)) (d10 : decode cc (pc + 10) = .ok (.athrow, 1))
    (hout : ∀ x ∈ c.exceptionTable.toList, covers x (pc + 10) = false)
    (hRframes : names.length + 3 < R.frames) (hRlocals : (rest.map fun v => v.category).sum + (13 * (names.length + 1) + 43) ≤ R.locals) (hRcells : cells + 1 ≤ R.cells) (hRslots : slots + 6 ≤ R.slots) (hlocks : meth.locks = false)
    (hx : ∀ t : State, s.vm.Alike t.vm → H.size ≤ t.heap.size → (∀ q : Nat, q < H.size → t.heap[q]? = H[q]?) → XC cls s t)
    (hf : ∀ z ∈ locs, free z.base) (hc : cells + 1 ≤ mc) (hs : slots + 6 ≤ ms) :
    W p l e R s m args below meth c H locs cells slots (vx_MQ below Qc XC args s mc ms free) (F0 m pc ls rest) := by
  intro T hT X
  have htr : e.platform.stackTraces = false := (show e.platform.stackTraces = l.stackTraces by rw [X.admits.platform]).trans hl
  have Y := vx_rebase X (R' := { frames := R.frames, locals := R.locals, cells := 1, slots := 6 }) (Nat.le_refl _) (Nat.le_refl _) hRcells hRslots
  obtain ⟨s', hA⟩ : ∃ z, z = (T.setVm s.vm).setFrames (.invoking m args :: below) := ⟨_, rfl⟩
  rw [← hA] at Y
  have hvm : s'.vm = s.vm := by rw [hA]; rfl
  have hhp : s'.heap = H := by rw [hA]; exact hT
  have hW0 : s.WarmedH s'.vm := by rw [hvm]; exact State.WarmedH.refl s
  have hat' : ∀ w ∈ vx_atS own ic cls names, w.before args s' = true := fun w hw => vx_ot_at hW0 hvm.symm (hgood w (List.mem_cons_of_mem _ (List.mem_cons_of_mem _ hw))) (hat w hw)
  have hk' : (Cond.classLink own ik cls).before args s' = true := vx_ot_at hW0 hvm.symm (hgood _ List.mem_cons_self) hk
  have hini' : (Cond.initialized cls).before args s' = true := vx_ot_at hW0 hvm.symm (hgood _ (List.mem_cons_of_mem _ List.mem_cons_self)) hini
  have hU' : vx_Zq Bundle.tN "UNASSIGNED_STACK" Bundle.steD A s' s'.heap := by rw [hhp]; exact vx_Zq.moved hW0.alike (hU.kept hS.2.1)
  have hN' : vx_Zq Bundle.tN "SUPPRESSED_SENTINEL" Bundle.listD A s' s'.heap := by rw [hhp]; exact vx_Zq.moved hW0.alike (hN.kept hS.2.1)
  have h : ∀ w ∈ Bundle.ownAtoms own ic cls names, w.before args s' = true := vx_own hat' (vx_isRefq hU'.1) (vx_isRefq hN'.1) hU'.2.word hN'.2.word
  have hown' : s'.vm.findClass own = some m.cls := by rw [hvm]; exact hown
  have hins : (Cond.instantiable cls 6).before args s' = true := h _ (by simp [Bundle.ownAtoms])
  obtain ⟨vm₁, cX, kX, hfX, hkX, -, -, X₁, st1⟩ := Y.newCold hexec (own := own) (C := cls) (index := ik) (n := 6) hown' hk' hins hini'
    (g := F0 m pc ls rest) rfl (by rw [hb]; exact d0) (Nat.le_refl _) (Nat.le_refl _)
  generalize hT1 : (T.setVm vm₁).pushCell { cls := cX, slots := kX.instanceTypes.map defaultValue, vm := .none } = T1 at X₁ st1
  have hcat : (Value.ref T.heap.size).category = 1 := rfl
  have hcellA : T1.heap[T.heap.size]? = some (freshCell cX kX) := by rw [← hT1]; exact State.heap_pushCell_size _ _
  have d3' : decode c.code (pc + 3) = .ok (.dup, 1) := by rw [hb]; exact d3
  have d4' : decode c.code (pc + 4) = .ok (.ldc_w is, 3) := by rw [hb]; exact d4
  have hstr' : vk_R own is text sa s' := vk_R.warm hW0 hstr
  obtain ⟨U, hsteps, hrun, hend, hW, hsame, ce, hce, hO⟩ := X₁.ctorThrowS hexec htr (own := own) (cls := cls) (names := names) (ic := ic) hown' hcls hnames h (fun x hx => nomatch hx) hfX hkX hcellA (by rw [hhp, hT]; exact Nat.le_refl _) (msg := .ref sa) rfl
    (g := { method := m, pc := pc + 7, locals := ls, stack := .ref sa :: .ref T.heap.size :: .ref T.heap.size :: rest, locked := none }) rfl hsize rfl rfl (rest := rest) rfl
    (by rw [hb]; exact d7) (by rw [hb]; exact d10) hout hRframes (by simp only [List.map_cons, List.sum_cons, hcat]; omega) hlocks
  obtain ⟨f1, f2⟩ := vx_frame hsame
  rw [hhp] at f1 f2
  have hWs : s.WarmedH U.vm := State.WarmedH.trans hW0 hW
  have hcl : s.vm.findClass cls = some ce.cls := by
    have h9 := hO.cls
    rw [hvm] at h9
    exact h9
  have hall : s.sameButNew ({ U with vm := s.vm } : State) locs mc ms := by
    subst hA
    obtain ⟨e1, e2⟩ := hsame
    rw [State.setFrames_setFrames] at e1
    have h2 : (T.setVm s.vm).sameButNew ({ U with vm := s.vm } : State) [] (0 + 1) (0 + 6) := ⟨e1, e2⟩
    have h3 := X.same.trans h2
    rw [List.append_nil] at h3
    exact h3.mono hc hs
  refine ⟨U, ?_, .threw T.heap.size, hrun, hend, Or.inr ⟨T.heap.size, rfl, cls, ce, locs, hx U hWs.alike f1 (fun q hq => f2 q hq (fun z hz => nomatch hz)), hce, hO.vm, hcl, hWs, hall, hf⟩⟩
  refine st1 _ ?_
  show Steps p.tables e below (T1.setTop { method := m, pc := pc + 3, locals := ls, stack := .ref T.heap.size :: rest, locked := none }) _
  jvm_step X₁.here [X₁.here.top, hexec, d3', Value.category]
  exact X₁.ldcStringW hexec (own := own) (text := text) (index := is) (a := sa) hown' hstr'.1 hstr'.2
    (g := { method := m, pc := pc + 4, locals := ls, stack := .ref T.heap.size :: .ref T.heap.size :: rest, locked := none }) rfl d4' _ hsteps
end Ends
section Bodies
variable {l : Launch}
theorem vx_ofW {y : MethodName} {ws ws' : List Cond} {rm : Room} {Pc : Array Value → State → Prop} {Qc : Array Value → State → Outcome → State → Prop} {XC : String → State → State → Prop} {mc ms : Nat} {free : Addr → Prop} {cc : ByteArray} {maxL : Nat} {ret : Option FieldType}
    (hy : plainName y.cls = true) (hw : ws = Cond.code y cc maxL ret :: ws')
    (body : ∀ p e s m args below meth c s₁, BodyLoose p l y (headSpec ws rm) cc maxL ret e s m args below meth c s₁ → c.maxLocals = maxL → (∀ x ∈ c.exceptionTable.toList, False) → Pc args s →
      W p l e (headSpec ws rm).room s m args below meth c s.heap [] 0 0 (vx_MQ below Qc XC args s mc ms free) (entryFrame m args maxL)) : vx_Met l y ws rm Pc Qc XC mc ms free := by
  refine MetFree.of_bodyS (code := cc) (maxLocals := maxL) (ret := ret) hy ?_ ?_
  · intro args s m h hn
    obtain ⟨meth, c, h1, h2, h3, h4, h5, h6, -, -⟩ := Cond.code_spec hn (atoms_spec (ws := ws) h _ (by rw [hw]; exact List.mem_cons_self))
    exact ⟨meth, c, h1, h2, h3, h4, h5, h6⟩
  · intro p e s m args below meth c s₁ B hml hP _
    have hh0 : s₁.heap = s.heap := by rw [B.state]; rfl
    have ht : ∀ x ∈ c.exceptionTable.toList, False := by
      obtain ⟨meth9, c9, h1, h2, -, -, -, -, h7, -⟩ := Cond.code_spec B.named (atoms_spec (ws := ws) B.pre _ (by rw [hw]; exact List.mem_cons_self))
      cases Option.some.inj (h1.symm.trans B.method)
      cases Option.some.inj (h2.symm.trans (Stand.of_body B).code)
      intro x hx
      rw [Array.isEmpty_iff.mp h7] at hx
      cases hx
    obtain ⟨t, a1, o, b1, b2, b3⟩ := body p e s m args below meth c s₁ B hml ht hP s₁ hh0 (Stand.of_body B)
    exact ⟨t, o, a1, b1, b2, b3⟩
/-- the table of a body with handlers -/
theorem vx_table {p : Program} {x y : MethodName} {S : Spec} {cc bytes : ByteArray} {maxL maxL' : Nat} {ret ret' : Option FieldType} {e : Env} {s s₁ : State} {m : MethodId} {args : Array Value} {below : List Frame} {meth : Method} {c : Code} {hh : List (Nat × Nat × Nat × Nat)}
    (B : BodyLoose p l y S cc maxL ret e s m args below meth c s₁) (h : (Cond.codeWith y bytes maxL' ret' hh).before args s = true) : c.exceptionTable.toList = tableOf hh := by
  obtain ⟨m9, meth9, c9, hn9, h1, h2, -, -, h6, -⟩ := Cond.codeWith_spec h
  cases Option.some.inj (hn9.symm.trans B.named)
  cases Option.some.inj (h1.symm.trans B.method)
  cases Option.some.inj (h2.symm.trans (Stand.of_body B).code)
  rw [← h6, table_eq]
end Bodies
end VXA
/-! ===== END ===== -/
/-! ===== BEGIN a static call of a method with an exception table ===== -/
section VXS
variable {p : Program} {l : Launch} {e : Env} {R : Room} {s : State} {m : MethodId} {args : Array Value} {below : List Frame} {meth : Method} {c : Code} {T : State} {H : Heap} {locs : List Loc} {cells slots : Nat}
abbrev vx_CSW (R : Room) (s : State) (args : Array Value) (own : String) (index : Nat) (y : MethodName) (bytes : ByteArray) (maxL : Nat) (ret : Option FieldType) (hh : List (Nat × Nat × Nat × Nat)) (ws : List Cond) (rm : Room) (mc ms n : Nat) : Prop :=
  (rm.cells = mc ∧ rm.slots = ms ∧ rm.frames + 1 ≤ R.frames ∧ 8 + (maxL + 11) + rm.locals ≤ R.locals ∧ (∀ w ∈ ws, ∀ (a' : Array Value) (U : State), s.WarmedH U.vm → w.before a' U = true) ∧ Cond.codeWith y bytes maxL ret hh ∈ ws) ∧
  (Cond.codeWith y bytes maxL ret hh).before args s = true ∧ (Cond.initialized y.cls).before args s = true ∧ (y.cls ≠ "java/lang/invoke/MethodHandle" ∧ y.cls ≠ "java/lang/invoke/VarHandle") ∧
  (∀ sig, parseMethodDescriptor y.desc = some sig → n = sig.parameters.length) ∧ (Cond.methodLink own index y).before args s = true ∧ (Cond.static y).before args s = true
theorem vx_cwSW {own : String} {index maxL mc ms : Nat} {y : MethodName} {bytes : ByteArray} {ret : Option FieldType} {hh : List (Nat × Nat × Nat × Nat)} {Ts ws ws' : List Cond} {rm : Room} (n : Nat) (ht : ∀ w ∈ Ts, w.before args s = true) (hT : GoodIn Ts (va_wsS own index y ws)) (hw : ws = Cond.codeWith y bytes maxL ret hh :: ws') (hrc : rm.cells = mc) (hrs : rm.slots = ms)
    (hd : y.cls ≠ "java/lang/invoke/MethodHandle" ∧ y.cls ≠ "java/lang/invoke/VarHandle" ∧ (parseMethodDescriptor y.desc).map (fun d => d.parameters.length) = some n) (hR : rm.frames + 1 ≤ R.frames ∧ 8 + (maxL + 11) + rm.locals ≤ R.locals) :
    vx_CSW R s args own index y bytes maxL ret hh ws rm mc ms n := by
  have ok : ∀ w ∈ va_wsS own index y ws, w.before args s = true := fun w h => ht w (hT w h).1
  have hG : GoodIn Ts ws := fun w h => hT w (by unfold va_wsS; exact List.mem_append_right _ h)
  have hc : Cond.codeWith y bytes maxL ret hh ∈ ws := by rw [hw]; exact List.mem_cons_self
  refine ⟨⟨hrc, hrs, hR.1, hR.2, pay_in ht hG, hc⟩, ht _ (hG _ hc).1, ok _ (by simp [va_wsS]), ⟨hd.1, hd.2.1⟩, fun sig h => ?_, ok _ (by simp [va_wsS]), ok _ (by simp [va_wsS])⟩
  have h2 := hd.2.2
  rw [h] at h2
  exact (Option.some.inj h2).symm
theorem vx_callSW (X : Stand p l e R s m args below meth c T locs cells slots) (hexec : p.tables.exec = Jvm.exec) {own : String} {index : Nat} {y : MethodName} {bytes : ByteArray} {maxL : Nat} {ret : Option FieldType} {hh : List (Nat × Nat × Nat × Nat)}
    (hown : s.vm.findClass own = some m.cls) (hlink : (Cond.methodLink own index y).before args s = true) (hstat : (Cond.static y).before args s = true) (hinit : (Cond.initialized y.cls).before args s = true)
    (hcode : (Cond.codeWith y bytes maxL ret hh).before args s = true) (hy : y.cls ≠ "java/lang/invoke/MethodHandle" ∧ y.cls ≠ "java/lang/invoke/VarHandle")
    {W9 : Nat} {Pre : Pt → Array Value → Prop} {Post : Pt → Array Value → Option Value → Pt → Prop} (hK : Back l R p e below s args y 3 W9 Pre Post)
    {g : JFrame} (hg : g.method = m) (hsize : g.locals.size = c.maxLocals) {argsL rest : List Value} (hlen : ∀ sig, parseMethodDescriptor y.desc = some sig → argsL.length = sig.parameters.length)
    (hstack : g.stack = argsL.reverse ++ rest) (hW : 2 * g.monitorRoom + (rest.map fun v => v.category).sum ≤ W9) (hdg : decode c.code g.pc = .ok (.invokestatic index, 3))
    (hpre : ∀ vm₁, s.WarmedH vm₁ → Pre ⟨T.setVm vm₁, locs, cells, slots⟩ argsL.toArray) :
    ∃ (v : Option Value) (vm₁ : Vm) (B : Pt), s.WarmedH vm₁ ∧ Stand p l e R s m args below meth c B.U B.locs B.cells B.slots ∧ Post ⟨T.setVm vm₁, locs, cells, slots⟩ argsL.toArray v B ∧
      ∀ target, Steps p.tables e below (B.U.setTop { g with pc := g.pc + 3, stack := v.toList ++ rest }) target → Steps p.tables e below (T.setTop g) target := by
  obtain ⟨mk, methM, cM, hnamed, hmethM, -, -, -, -, -, -, hsigM⟩ := Cond.codeWith_spec hcode
  have hstatic : methM.isStatic = true := Cond.static_spec hnamed hmethM hstat
  obtain ⟨kP, hkP, -⟩ := className_of_methodNamed hnamed
  have hinitP : kP.init = .initialized := Cond.initialized_spec (findClass_of_methodNamed hnamed) hkP hinit
  obtain ⟨vm₁, X₁, hstep₁⟩ := X.invokestatic hexec hown hlink hnamed hmethM hstatic hkP hinitP hy (g := g) hg (argsL := argsL) (rest := rest) (hlen _ hsigM) hstack hdg
  obtain ⟨v, B, X', hpost, hsteps⟩ := hK m meth c ⟨T.setVm vm₁, locs, cells, slots⟩ { g with stack := rest } (.invokestatic index) mk argsL.toArray X₁ hg hsize hdg hW (X₁.named hnamed) (hpre vm₁ X₁.warmed)
  exact ⟨v, vm₁, B, X₁.warmed, X', hpost, fun target h => hstep₁ _ fun acts => by rw [doInvoke_state]; exact hsteps.trans h⟩
theorem vx_runSW {y : MethodName} {bytes cc : ByteArray} {maxL nL mc ms n index : Nat} {ret : Option FieldType} {hh : List (Nat × Nat × Nat × Nat)} {ws : List Cond} {rm : Room} {Pc : Array Value → State → Prop} {Qc : Array Value → State → Outcome → State → Prop} {free : Addr → Prop} {Ts : List Cond} {own : String} {As rest : List Value} {g : JFrame}
    (S : CallFix p m c cc nL s args Ts own) (hM : Met l y ws rm Pc Qc mc ms free) (cw : vx_CSW R s args own index y bytes maxL ret hh ws rm mc ms n) (hp : PreS s H Pc As)
    (hg : g.method = m) (hn : As.length = n) (hsize : g.locals.size = nL) (hstack : g.stack = As.reverse ++ rest) (hW : 2 * g.monitorRoom + (rest.map fun v => v.category).sum ≤ 8) (hdg : decode cc g.pc = .ok (.invokestatic index, 3)) (hf : cells + mc ≤ R.cells ∧ slots + ms ≤ R.slots) :
    va_Run p l e R s m args below meth c H locs cells slots mc ms g rest (Qc As.toArray) (free) := by
  obtain ⟨⟨hrc, hrs, hfr, hlo, hws, hcw⟩, hcode, hini, hy, hlen, hl, hstt⟩ := cw
  have hK : Back l R p e below s args y 3 8 (PreOf R mc ms Pc) (PostOf Qc mc ms free) := va_backW (hh := hh) (bytes := bytes) (maxL := maxL) (ret := ret) hM hp.1 hrc hrs hfr hlo hws hcw (fun a' U hW => word_at hW (Or.inl (by first | rfl | simp [Cond.onTables, Cond.keeps, Cond.steady])) hini)
  obtain ⟨hx, hb, hml, ho, -⟩ := S
  intro T hT X
  obtain ⟨v, vm₁, ⟨U', l2, c2, s2⟩, hW₁, X', ⟨g', mk, t, L, e1, e2, hq, h1, hL, h2, h3⟩, st⟩ := vx_callSW X hx (hh := hh) (bytes := bytes) (maxL := maxL) (ret := ret) ho hl hstt hini hcode hy hK hg (hsize.trans hml.symm) (argsL := As) (rest := rest) (fun sig h => hn.trans (hlen sig h)) hstack hW (by rw [hb]; exact hdg)
    (fun vm₁ hW₁ => ⟨hf.1, hf.2, hp.2 (T.setVm vm₁) hT hW₁⟩)
  dsimp only [Pt.U, Pt.locs, Pt.cells, Pt.slots] at X' e1 e2 h1 h2 h3 st
  subst h1; subst h2; subst h3
  exact ⟨v, (T.setVm vm₁).calling g' mk As.toArray, t, U', L, hT, X', hL, e1, e2, hq, st⟩
/-- not caught here, past rows that name other classes: it goes on to the caller -/
theorem vx_outP {p : Program} {l : Launch} {e : Env} {R : Room} {s : State} {m : MethodId} {args : Array Value} {below : List Frame} {meth : Method} {c : Code} {H : Heap} {locs : List Loc} {cells slots : Nat} {free : Addr → Prop} {ls : Array Slot} {rest : List Value} {Qc : Array Value → State → Outcome → State → Prop} {XC : String → State → State → Prop}
    {pc : Nat} {own E : String} {ce : Cell} {q : Addr} {mc ms : Nat} (hown : s.vm.findClass own = some m.cls) (hlocks : meth.locks = false)
    (hpass : ∀ z ∈ c.exceptionTable.toList, covers z pc = false ∨ (z.catchType ≠ 0 ∧ ∃ nm : String, (Cond.classLink own z.catchType nm).before args s = true ∧ va_Nc E nm s)) (hcell : H[q]? = some ce) (hv : ce.vm = .none) (hcl : s.vm.findClass E = some ce.cls)
    (hx : ∀ t : State, t.heap = H → s.vm.Alike t.vm → XC E s t) (hf : ∀ z ∈ locs, free z.base) (hc : cells ≤ mc) (hs : slots ≤ ms) :
    vx_W p l e R s m args below meth c H locs cells slots (vx_MQ below Qc XC args s mc ms free) (F0 m pc ls rest) q := by
  intro T hT X
  have hpl : e.platform.magicAccessors = ({} : Platform).magicAccessors := by rw [X.admits.platform]
  obtain ⟨vm', hW', X', st⟩ := X.outThrough hlocks q (g := F0 m pc ls rest) rfl rfl rfl (cell := ce) (by rw [hT]; exact hcell) (by rw [hv]; rfl)
    (by obtain ⟨k9, h9, -⟩ := Vm.findClass_spec hcl; exact ⟨k9, h9⟩) (fun z hz => by
      rcases hpass z hz with h | ⟨hz0, nm, hl1, hn1⟩
      · exact Or.inl h
      · obtain ⟨c6, hc6, hcl6⟩ := Cond.classLink_spec hown hl1 e.platform hpl
        obtain ⟨a8, b8, h1, h2, h3⟩ := hn1
        cases Option.some.inj (h1.symm.trans hcl)
        cases Option.some.inj (h2.symm.trans hc6)
        exact Or.inr ⟨hz0, _, hcl6, h3⟩)
  obtain ⟨g₀, hfr⟩ := X'.frames_eq
  have hcell9 : ((T.setVm vm').setFrames (.throwing q :: below)).heap[q]? = some ce := by
    show T.heap[q]? = some ce
    rw [hT]; exact hcell
  have hend : Ended ((T.setVm vm').setFrames (.throwing q :: below)) below (.threw q) := State.frames_setFrames _ (State.cur_lt_of_frames hfr)
  refine ⟨(T.setVm vm').setFrames (.throwing q :: below), ?_, .threw q, X'.here.running, hend, Or.inr ⟨q, rfl, E, ce, locs, hx _ hT (X'.ends _).1.alike, hcell9, hv, hcl, (X'.ends _).1, (X'.ends _).2.mono hc hs, hf⟩⟩
  rw [X.pushThrowing_eq]
  exact st
/-- a thing of a world lies in the heap -/
theorem vx_lt {D : va_G} {cl : List vw_C} {ws : va_W} {H1 : Heap} (h : va_P D cl ws H1) {k : Nat} {q : Nat × va_E} (hk : ws[k]? = some q) : q.1 < H1.size := (h k q hk).lt
end VXS
/-! ===== END ===== -/
/-! ===== BEGIN methods with a table of their own: called by a name, returning or throwing ===== -/
section VXH
/-! vx_backW, vx_callVX, vx_callSX, vx_callVW, vx_runVW, vx_runVX, vx_runSX, vx_ofWH follow the same proofs as their sisters above (Free/Laws.lean, Shelf42/LK1.lean); vx_outP calls Shelf42/NT130.lean (outThrough). -/
section
variable {l : Launch} {R : Room} {p : Program} {e : Env} {below : List Frame} {s : State} {sargs : Array Value} {y : MethodName} {len W9 : Nat}
theorem vx_backW {ws : List Cond} {rm : Room} {Pc : Array Value → State → Prop} {Qc : Array Value → State → Outcome → State → Prop} {XC : String → State → State → Prop} {mc ms : Nat} {free : Addr → Prop} {bytes : ByteArray} {maxL : Nat} {ret : Option FieldType} {hh : List (Nat × Nat × Nat × Nat)}
    (hM : vx_Met l y ws rm Pc Qc XC mc ms free) (hblind : FrameBlind Pc) (hrc : rm.cells = mc) (hrs : rm.slots = ms)
    (hframes : rm.frames + 1 ≤ R.frames) (hlocals : W9 + (maxL + 11) + rm.locals ≤ R.locals)
    (hws : ∀ w ∈ ws, ∀ a' U, s.WarmedH U.vm → w.before a' U = true) (hcode : Cond.codeWith y bytes maxL ret hh ∈ ws) (hinit : ∀ a' U, s.WarmedH U.vm → (Cond.initialized y.cls).before a' U = true) :
    vx_Back l R p e below s sargs y len W9 (PreOf R mc ms Pc) (PostOf Qc mc ms free) (vx_Post XC mc ms free) := by
  intro m meth c A g ig mk a X hg hsize hdg hW hn hp
  have h1 : (headSpec ws rm).pre.before a A.U = true := atoms_intro fun w hw => hws w hw _ _ X.warmed
  have h2 : (Cond.codeWith y bytes maxL ret hh).before a A.U = true := hws _ hcode _ _ X.warmed
  have h3 : (Cond.initialized y.cls).before a A.U = true := hinit _ _ X.warmed
  have h4 : A.cells + (headSpec ws rm).room.cells ≤ R.cells := by rw [show (headSpec ws rm).room.cells = mc from hrc]; exact hp.1
  have h5 : A.slots + (headSpec ws rm).room.slots ≤ R.slots := by rw [show (headSpec ws rm).room.slots = ms from hrs]; exact hp.2.1
  have hPc : Pc a (A.U.calling g mk a) := hblind _ _ _ _ hp.2.2
  obtain ⟨U, Ls, c0, s0⟩ := A
  dsimp only [Pt.U, Pt.locs, Pt.cells, Pt.slots] at h1 h2 h3 h4 h5 X hn hPc ⊢
  obtain ⟨m9, methY, cY, hn9, hmY, hcY, -, hlY, -⟩ := Cond.codeWith_spec h2
  cases Option.some.inj (hn9.symm.trans hn)
  obtain ⟨kY, hkY, -⟩ := className_of_methodNamed hn
  have hinitY : kY.init = .initialized := Cond.initialized_spec (findClass_of_methodNamed hn) hkY h3
  have h : At U g.method c below := by rw [hg]; exact X.here
  have hlocals9 : W9 + (maxL + 11) + (headSpec ws rm).room.locals ≤ R.locals := hlocals
  have happ : (headSpec ws rm).appliesLoose y e.platform (U.calling g mk a) = true :=
    Spec.appliesLoose_calling (g := g) h hdg hn hkY hinitY
      (X.room_calling (g := g) (R' := (headSpec ws rm).room) hsize hmY hcY hframes (by rw [hlY]; omega) h4 h5) h1
  obtain ⟨mid, hmid⟩ := h.above
  have hfr : (U.setTop g).frames = (.java g :: mid) ++ below := by rw [State.frames_setTop' g h.top, hmid]; rfl
  obtain ⟨o, s₂, hsteps, -, hend, hq⟩ := Steps.callFree hM p X.admits X.cas X.clock (acts := []) hfr happ hPc trivial
  have hq' : vx_Q Qc XC mc ms free a (U.calling g mk a) o s₂ := hq
  rw [State.frames_setTop' g h.top] at hend
  obtain ⟨g₀, hg0⟩ := Option.isSome_iff_exists.mp h.top
  obtain ⟨r, hr⟩ := State.topJava?_eq_some.mp hg0
  have hr' : (({ U with heap := s₂.heap, slotsUsed := s₂.slotsUsed } : State).setVm s₂.vm).frames = .java g₀ :: r := hr
  rcases hq' with ⟨hqc, L, hfe, hL⟩ | ⟨q, rfl, E, ce, L, hx, hce, hcv, hcl, hW₂, hsm, hL⟩
  · obtain ⟨⟨v, rfl⟩, hW₂, e2, q2, q3, q4, q5, q6⟩ := id hfe
    have e3 : s₂ = ({ (U.calling g mk a).setFrames s₂.frames with heap := s₂.heap, slotsUsed := s₂.slotsUsed } : State).setVm s₂.vm := by
      have : s₂ = ({ s₂ with vm := (U.calling g mk a).vm } : State).setVm s₂.vm := rfl
      rw [e2] at this
      exact this
    obtain ⟨c₂, i₂, len₂, hc₂, hd₂, hf₂⟩ := hend
    have hW' : U.WarmedH s₂.vm := hW₂
    have hcc : c₂ = c := by
      have h1 : s₂.code? g.method = U.code? g.method := by
        rw [State.code?_eq, State.code?_eq, hW'.alike.method?]
      exact Option.some.inj (hc₂.symm.trans (h1.trans h.code))
    subst hcc
    have hlen : len₂ = len := by rw [hdg] at hd₂; cases hd₂; rfl
    subst hlen
    have hs₂ : s₂ = (({ U with heap := s₂.heap, slotsUsed := s₂.slotsUsed } : State).setVm s₂.vm).setTop { g with pc := g.pc + len₂, stack := v.toList ++ g.stack } := by
      refine e3.trans ?_
      rw [hf₂, State.calling_eq h.top, State.setFrames_setFrames, State.setTop_of_frames _ hr', hr]
      rfl
    have hsame : U.sameButNew ({ U with heap := s₂.heap, slotsUsed := s₂.slotsUsed } : State) L mc ms := by
      refine ⟨?_, q2, q3, q4, q5, q6⟩
      obtain ⟨t, ht, -⟩ := State.frames_cons hr
      show ({ U with heap := s₂.heap, slotsUsed := s₂.slotsUsed } : State) = { U.setFrames U.frames with heap := s₂.heap, slotsUsed := s₂.slotsUsed }
      rw [State.setFrames_self ht]
    subst hg
    refine Or.inl ⟨v, ⟨(({ U with heap := s₂.heap, slotsUsed := s₂.slotsUsed } : State).setVm s₂.vm), Ls ++ L, c0 + mc, s0 + ms⟩,
      ⟨X.admits, X.cas, X.clock, X.frames, X.room, X.hears, X.method, X.code, (X.here.setHeapUsed s₂.heap s₂.slotsUsed).setVm hW'.alike, X.tail, State.WarmedH.trans X.warmed hW', X.limits, X.bytes, X.same.trans (hsame.setVm s.vm)⟩,
      ⟨g, mk, s₂, L, rfl, rfl, hqc, rfl, hL, rfl, rfl⟩, ?_⟩
    show Steps p.tables e below _ ((({ U with heap := s₂.heap, slotsUsed := s₂.slotsUsed } : State).setVm s₂.vm).setTop { g with pc := g.pc + len₂, stack := v.toList ++ g.stack })
    rw [← hs₂]
    exact hsteps
  · obtain ⟨e2, q2, q3, q4, q5, q6⟩ := id hsm
    have e3 : s₂ = ({ (U.calling g mk a).setFrames s₂.frames with heap := s₂.heap, slotsUsed := s₂.slotsUsed } : State).setVm s₂.vm := by
      have : s₂ = ({ s₂ with vm := (U.calling g mk a).vm } : State).setVm s₂.vm := rfl
      rw [e2] at this
      exact this
    have hf₂ : s₂.frames = .throwing q :: .java g :: U.frames.tail := hend
    have hW' : U.WarmedH s₂.vm := hW₂
    have hs₂ : s₂ = ((({ U with heap := s₂.heap, slotsUsed := s₂.slotsUsed } : State).setVm s₂.vm).setTop g).pushFrame (.throwing q) := by
      refine e3.trans ?_
      rw [hf₂, State.calling_eq h.top, State.setFrames_setFrames, State.pushFrame, State.frames_setTop _ hr', State.setTop_of_frames _ hr', State.setFrames_setFrames, hr]
      rfl
    have hsame : U.sameButNew ({ U with heap := s₂.heap, slotsUsed := s₂.slotsUsed } : State) L mc ms := by
      refine ⟨?_, q2, q3, q4, q5, q6⟩
      obtain ⟨t, ht, -⟩ := State.frames_cons hr
      show ({ U with heap := s₂.heap, slotsUsed := s₂.slotsUsed } : State) = { U.setFrames U.frames with heap := s₂.heap, slotsUsed := s₂.slotsUsed }
      rw [State.setFrames_self ht]
    subst hg
    refine Or.inr ⟨q, ⟨(({ U with heap := s₂.heap, slotsUsed := s₂.slotsUsed } : State).setVm s₂.vm), Ls ++ L, c0 + mc, s0 + ms⟩,
      ⟨X.admits, X.cas, X.clock, X.frames, X.room, X.hears, X.method, X.code, (X.here.setHeapUsed s₂.heap s₂.slotsUsed).setVm hW'.alike, X.tail, State.WarmedH.trans X.warmed hW', X.limits, X.bytes, X.same.trans (hsame.setVm s.vm)⟩,
      ⟨g, mk, s₂, L, E, ce, rfl, rfl, hx, hce, hcv, hcl, rfl, hL, rfl, rfl⟩, ?_⟩
    show Steps p.tables e below _ (((({ U with heap := s₂.heap, slotsUsed := s₂.slotsUsed } : State).setVm s₂.vm).setTop g).pushFrame (.throwing q))
    rw [← hs₂]
    exact hsteps
end
variable {p : Program} {l : Launch} {e : Env} {R : Room} {s : State} {m : MethodId} {args : Array Value} {below : List Frame} {meth : Method} {c : Code} {T : State} {H : Heap} {locs : List Loc} {cells slots : Nat}
theorem vx_callVX (X : Stand p l e R s m args below meth c T locs cells slots) (hexec : p.tables.exec = Jvm.exec) {own C : String} {index : Nat} {y : MethodName} {bytes : ByteArray} {maxL : Nat} {ret : Option FieldType} {hh : List (Nat × Nat × Nat × Nat)}
    (hown : s.vm.findClass own = some m.cls) (hlink : (Cond.methodLink own index y).before args s = true) (hinst : (Cond.instanceMethod y).before args s = true) (hsel : (Cond.selects C y y).before args s = true)
    (hcode : (Cond.codeWith y bytes maxL ret hh).before args s = true) (hy : y.cls ≠ "java/lang/invoke/MethodHandle" ∧ y.cls ≠ "java/lang/invoke/VarHandle")
    {W9 : Nat} {Pre : Pt → Array Value → Prop} {Post : Pt → Array Value → Option Value → Pt → Prop} {PostX : Pt → Array Value → Addr → Pt → Prop} (hK : vx_Back l R p e below s args y 3 W9 Pre Post PostX)
    {b : Addr} {cellB : Cell} (hcell : T.heap[b]? = some cellB) (hobj : cellB.vm.isStatics = false) (hcls : s.vm.findClass C = some cellB.cls)
    {g : JFrame} (hg : g.method = m) (hsize : g.locals.size = c.maxLocals) {argsL rest : List Value} (hlen : ∀ sig, parseMethodDescriptor y.desc = some sig → argsL.length = sig.parameters.length)
    (hstack : g.stack = argsL.reverse ++ .ref b :: rest) (hW : 2 * g.monitorRoom + (rest.map fun v => v.category).sum ≤ W9) (hdg : decode c.code g.pc = .ok (.invokevirtual index, 3))
    (hpre : ∀ vm₁, s.WarmedH vm₁ → Pre ⟨T.setVm vm₁, locs, cells, slots⟩ (Value.ref b :: argsL).toArray) :
    (∃ (v : Option Value) (vm₁ : Vm) (B : Pt), s.WarmedH vm₁ ∧ Stand p l e R s m args below meth c B.U B.locs B.cells B.slots ∧ Post ⟨T.setVm vm₁, locs, cells, slots⟩ (Value.ref b :: argsL).toArray v B ∧
      ∀ target, Steps p.tables e below (B.U.setTop { g with pc := g.pc + 3, stack := v.toList ++ rest }) target → Steps p.tables e below (T.setTop g) target) ∨
    (∃ (q : Addr) (vm₁ : Vm) (B : Pt), s.WarmedH vm₁ ∧ Stand p l e R s m args below meth c B.U B.locs B.cells B.slots ∧ PostX ⟨T.setVm vm₁, locs, cells, slots⟩ (Value.ref b :: argsL).toArray q B ∧
      Steps p.tables e below (T.setTop g) ((B.U.setTop { g with stack := rest }).pushFrame (.throwing q))) := by
  obtain ⟨mk, methM, hnamed, hmethM, hstM, habM⟩ := Cond.instanceMethod_spec hinst
  obtain ⟨m8, methM', cM, hn8, hmethM', -, -, -, -, -, -, hsigM⟩ := Cond.codeWith_spec hcode
  cases Option.some.inj (hn8.symm.trans hnamed)
  cases hmethM.symm.trans hmethM'
  obtain ⟨c2, r2, m2, q1, q2, q3, q4, kP, hkP, hkPi⟩ := Cond.selects_spec hsel
  cases hcls.symm.trans q1
  cases (State.methodFound?_of_named hnamed hy).symm.trans q2
  cases hnamed.symm.trans q3
  have hselP : selectMethod e.platform s.vm cellB.cls mk = .method mk := by rw [Launch.admits_selectMethod X.admits]; exact q4
  obtain ⟨vm₁, X₁, hstep₁⟩ := X.invokevirtual hexec hown hlink hnamed hmethM hstM hkP hkPi hy (a := b) (cell := cellB) hcell
    (fun z h => by rw [h] at hobj; cases hobj) hselP hmethM habM hkP hkPi (g := g) hg (argsL := argsL) (rest := rest) (hlen _ hsigM) hstack hdg
  rcases hK m meth c ⟨T.setVm vm₁, locs, cells, slots⟩ { g with stack := rest } (.invokevirtual index) mk (Value.ref b :: argsL).toArray X₁ hg hsize hdg hW (X₁.named hnamed) (hpre vm₁ X₁.warmed) with ⟨v, B, X', hpost, hsteps⟩ | ⟨q, B, X', hpost, hsteps⟩
  · exact Or.inl ⟨v, vm₁, B, X₁.warmed, X', hpost, fun target h => hstep₁ _ fun acts => by rw [doInvoke_state]; exact hsteps.trans h⟩
  · exact Or.inr ⟨q, vm₁, B, X₁.warmed, X', hpost, hstep₁ _ fun acts => by rw [doInvoke_state]; exact hsteps⟩
theorem vx_callSX (X : Stand p l e R s m args below meth c T locs cells slots) (hexec : p.tables.exec = Jvm.exec) {own : String} {index : Nat} {y : MethodName} {bytes : ByteArray} {maxL : Nat} {ret : Option FieldType} {hh : List (Nat × Nat × Nat × Nat)}
    (hown : s.vm.findClass own = some m.cls) (hlink : (Cond.methodLink own index y).before args s = true) (hstat : (Cond.static y).before args s = true) (hinit : (Cond.initialized y.cls).before args s = true)
    (hcode : (Cond.codeWith y bytes maxL ret hh).before args s = true) (hy : y.cls ≠ "java/lang/invoke/MethodHandle" ∧ y.cls ≠ "java/lang/invoke/VarHandle")
    {W9 : Nat} {Pre : Pt → Array Value → Prop} {Post : Pt → Array Value → Option Value → Pt → Prop} {PostX : Pt → Array Value → Addr → Pt → Prop} (hK : vx_Back l R p e below s args y 3 W9 Pre Post PostX)
    {g : JFrame} (hg : g.method = m) (hsize : g.locals.size = c.maxLocals) {argsL rest : List Value} (hlen : ∀ sig, parseMethodDescriptor y.desc = some sig → argsL.length = sig.parameters.length)
    (hstack : g.stack = argsL.reverse ++ rest) (hW : 2 * g.monitorRoom + (rest.map fun v => v.category).sum ≤ W9) (hdg : decode c.code g.pc = .ok (.invokestatic index, 3))
    (hpre : ∀ vm₁, s.WarmedH vm₁ → Pre ⟨T.setVm vm₁, locs, cells, slots⟩ argsL.toArray) :
    (∃ (v : Option Value) (vm₁ : Vm) (B : Pt), s.WarmedH vm₁ ∧ Stand p l e R s m args below meth c B.U B.locs B.cells B.slots ∧ Post ⟨T.setVm vm₁, locs, cells, slots⟩ argsL.toArray v B ∧
      ∀ target, Steps p.tables e below (B.U.setTop { g with pc := g.pc + 3, stack := v.toList ++ rest }) target → Steps p.tables e below (T.setTop g) target) ∨
    (∃ (q : Addr) (vm₁ : Vm) (B : Pt), s.WarmedH vm₁ ∧ Stand p l e R s m args below meth c B.U B.locs B.cells B.slots ∧ PostX ⟨T.setVm vm₁, locs, cells, slots⟩ argsL.toArray q B ∧
      Steps p.tables e below (T.setTop g) ((B.U.setTop { g with stack := rest }).pushFrame (.throwing q))) := by
  obtain ⟨mk, methM, cM, hnamed, hmethM, -, -, -, -, -, -, hsigM⟩ := Cond.codeWith_spec hcode
  have hstatic : methM.isStatic = true := Cond.static_spec hnamed hmethM hstat
  obtain ⟨kP, hkP, -⟩ := className_of_methodNamed hnamed
  have hinitP : kP.init = .initialized := Cond.initialized_spec (findClass_of_methodNamed hnamed) hkP hinit
  obtain ⟨vm₁, X₁, hstep₁⟩ := X.invokestatic hexec hown hlink hnamed hmethM hstatic hkP hinitP hy (g := g) hg (argsL := argsL) (rest := rest) (hlen _ hsigM) hstack hdg
  rcases hK m meth c ⟨T.setVm vm₁, locs, cells, slots⟩ { g with stack := rest } (.invokestatic index) mk argsL.toArray X₁ hg hsize hdg hW (X₁.named hnamed) (hpre vm₁ X₁.warmed) with ⟨v, B, X', hpost, hsteps⟩ | ⟨q, B, X', hpost, hsteps⟩
  · exact Or.inl ⟨v, vm₁, B, X₁.warmed, X', hpost, fun target h => hstep₁ _ fun acts => by rw [doInvoke_state]; exact hsteps.trans h⟩
  · exact Or.inr ⟨q, vm₁, B, X₁.warmed, X', hpost, hstep₁ _ fun acts => by rw [doInvoke_state]; exact hsteps⟩
theorem vx_callVW (X : Stand p l e R s m args below meth c T locs cells slots) (hexec : p.tables.exec = Jvm.exec) {own C : String} {index : Nat} {y : MethodName} {bytes : ByteArray} {maxL : Nat} {ret : Option FieldType} {hh : List (Nat × Nat × Nat × Nat)}
    (hown : s.vm.findClass own = some m.cls) (hlink : (Cond.methodLink own index y).before args s = true) (hinst : (Cond.instanceMethod y).before args s = true) (hsel : (Cond.selects C y y).before args s = true)
    (hcode : (Cond.codeWith y bytes maxL ret hh).before args s = true) (hy : y.cls ≠ "java/lang/invoke/MethodHandle" ∧ y.cls ≠ "java/lang/invoke/VarHandle")
    {W9 : Nat} {Pre : Pt → Array Value → Prop} {Post : Pt → Array Value → Option Value → Pt → Prop} (hK : Back l R p e below s args y 3 W9 Pre Post)
    {b : Addr} {cellB : Cell} (hcell : T.heap[b]? = some cellB) (hobj : cellB.vm.isStatics = false) (hcls : s.vm.findClass C = some cellB.cls)
    {g : JFrame} (hg : g.method = m) (hsize : g.locals.size = c.maxLocals) {argsL rest : List Value} (hlen : ∀ sig, parseMethodDescriptor y.desc = some sig → argsL.length = sig.parameters.length)
    (hstack : g.stack = argsL.reverse ++ .ref b :: rest) (hW : 2 * g.monitorRoom + (rest.map fun v => v.category).sum ≤ W9) (hdg : decode c.code g.pc = .ok (.invokevirtual index, 3))
    (hpre : ∀ vm₁, s.WarmedH vm₁ → Pre ⟨T.setVm vm₁, locs, cells, slots⟩ (Value.ref b :: argsL).toArray) :
    ∃ (v : Option Value) (vm₁ : Vm) (B : Pt), s.WarmedH vm₁ ∧ Stand p l e R s m args below meth c B.U B.locs B.cells B.slots ∧ Post ⟨T.setVm vm₁, locs, cells, slots⟩ (Value.ref b :: argsL).toArray v B ∧
      ∀ target, Steps p.tables e below (B.U.setTop { g with pc := g.pc + 3, stack := v.toList ++ rest }) target → Steps p.tables e below (T.setTop g) target := by
  obtain ⟨mk, methM, hnamed, hmethM, hstM, habM⟩ := Cond.instanceMethod_spec hinst
  obtain ⟨m8, methM', cM, hn8, hmethM', -, -, -, -, -, -, hsigM⟩ := Cond.codeWith_spec hcode
  cases Option.some.inj (hn8.symm.trans hnamed)
  cases hmethM.symm.trans hmethM'
  obtain ⟨c2, r2, m2, q1, q2, q3, q4, kP, hkP, hkPi⟩ := Cond.selects_spec hsel
  cases hcls.symm.trans q1
  cases (State.methodFound?_of_named hnamed hy).symm.trans q2
  cases hnamed.symm.trans q3
  have hselP : selectMethod e.platform s.vm cellB.cls mk = .method mk := by rw [Launch.admits_selectMethod X.admits]; exact q4
  obtain ⟨vm₁, X₁, hstep₁⟩ := X.invokevirtual hexec hown hlink hnamed hmethM hstM hkP hkPi hy (a := b) (cell := cellB) hcell
    (fun z h => by rw [h] at hobj; cases hobj) hselP hmethM habM hkP hkPi (g := g) hg (argsL := argsL) (rest := rest) (hlen _ hsigM) hstack hdg
  obtain ⟨v, B, X', hpost, hsteps⟩ := hK m meth c ⟨T.setVm vm₁, locs, cells, slots⟩ { g with stack := rest } (.invokevirtual index) mk (Value.ref b :: argsL).toArray X₁ hg hsize hdg hW (X₁.named hnamed) (hpre vm₁ X₁.warmed)
  exact ⟨v, vm₁, B, X₁.warmed, X', hpost, fun target h => hstep₁ _ fun acts => by rw [doInvoke_state]; exact hsteps.trans h⟩
abbrev vx_CVW (R : Room) (s : State) (args : Array Value) (own C : String) (index : Nat) (y : MethodName) (bytes : ByteArray) (maxL : Nat) (ret : Option FieldType) (hh : List (Nat × Nat × Nat × Nat)) (ws : List Cond) (rm : Room) (mc ms n : Nat) : Prop :=
  (rm.cells = mc ∧ rm.slots = ms ∧ rm.frames + 1 ≤ R.frames ∧ 8 + (maxL + 11) + rm.locals ≤ R.locals ∧ (∀ w ∈ ws, ∀ (a' : Array Value) (U : State), s.WarmedH U.vm → w.before a' U = true) ∧ Cond.codeWith y bytes maxL ret hh ∈ ws) ∧
  (Cond.codeWith y bytes maxL ret hh).before args s = true ∧ (Cond.initialized y.cls).before args s = true ∧ (y.cls ≠ "java/lang/invoke/MethodHandle" ∧ y.cls ≠ "java/lang/invoke/VarHandle") ∧
  (∀ sig, parseMethodDescriptor y.desc = some sig → n = sig.parameters.length) ∧ (Cond.methodLink own index y).before args s = true ∧ (Cond.instanceMethod y).before args s = true ∧ (Cond.selects C y y).before args s = true
theorem vx_cwVW {own C : String} {index maxL mc ms : Nat} {y : MethodName} {bytes : ByteArray} {ret : Option FieldType} {hh : List (Nat × Nat × Nat × Nat)} {Ts ws ws' : List Cond} {rm : Room} (n : Nat) (ht : ∀ w ∈ Ts, w.before args s = true) (hT : GoodIn Ts (wsV own index C y ws)) (hw : ws = Cond.codeWith y bytes maxL ret hh :: ws') (hrc : rm.cells = mc) (hrs : rm.slots = ms)
    (hd : y.cls = C ∧ y.cls ≠ "java/lang/invoke/MethodHandle" ∧ y.cls ≠ "java/lang/invoke/VarHandle" ∧ (parseMethodDescriptor y.desc).map (fun d => d.parameters.length) = some n) (hR : rm.frames + 1 ≤ R.frames ∧ 8 + (maxL + 11) + rm.locals ≤ R.locals) :
    vx_CVW R s args own C index y bytes maxL ret hh ws rm mc ms n := by
  obtain ⟨hC, hd⟩ := hd
  subst hC
  have ok : ∀ w ∈ wsV own index y.cls y ws, w.before args s = true := fun w h => ht w (hT w h).1
  have hG : GoodIn Ts ws := fun w h => hT w (by unfold wsV; exact List.mem_append_right _ h)
  have hc : Cond.codeWith y bytes maxL ret hh ∈ ws := by rw [hw]; exact List.mem_cons_self
  refine ⟨⟨hrc, hrs, hR.1, hR.2, pay_in ht hG, hc⟩, ht _ (hG _ hc).1, ok _ (by simp [wsV]), ⟨hd.1, hd.2.1⟩, fun sig h => ?_, ok _ (by simp [wsV]), ok _ (by simp [wsV]), ok _ (by simp [wsV])⟩
  have h2 := hd.2.2
  rw [h] at h2
  exact (Option.some.inj h2).symm
theorem vx_runVW {y : MethodName} {bytes cc : ByteArray} {maxL nL mc ms n index : Nat} {ret : Option FieldType} {hh : List (Nat × Nat × Nat × Nat)} {ws : List Cond} {rm : Room} {Pc : Array Value → State → Prop} {Qc : Array Value → State → Outcome → State → Prop} {free : Addr → Prop} {Ts : List Cond} {own C : String} {b : Addr} {As rest : List Value} {g : JFrame}
    (S : CallFix p m c cc nL s args Ts own) (hM : Met l y ws rm Pc Qc mc ms free) (cw : vx_CVW R s args own C index y bytes maxL ret hh ws rm mc ms n) (hp : PreV s H C b Pc As)
    (hg : g.method = m) (hn : As.length = n) (hsize : g.locals.size = nL) (hstack : g.stack = As.reverse ++ .ref b :: rest) (hW : 2 * g.monitorRoom + (rest.map fun v => v.category).sum ≤ 8) (hdg : decode cc g.pc = .ok (.invokevirtual index, 3)) (hf : cells + mc ≤ R.cells ∧ slots + ms ≤ R.slots) :
    va_Run p l e R s m args below meth c H locs cells slots mc ms g rest (Qc (Value.ref b :: As).toArray) free := by
  obtain ⟨⟨hrc, hrs, hfr, hlo, hws, hcw⟩, hcode, hini, hy, hlen, hl, hin, hse⟩ := cw
  have hK : Back l R p e below s args y 3 8 (PreOf R mc ms Pc) (PostOf Qc mc ms free) := va_backW (hh := hh) (bytes := bytes) (maxL := maxL) (ret := ret) hM hp.1 hrc hrs hfr hlo hws hcw (fun a' U hW => word_at hW (Or.inl (by first | rfl | simp [Cond.onTables, Cond.keeps, Cond.steady])) hini)
  obtain ⟨hx, hb, hml, ho, -⟩ := S
  obtain ⟨-, ⟨cellB, hcB, hoB, hclB⟩, hPc⟩ := hp
  intro T hT X
  obtain ⟨v, vm₁, ⟨U', l2, c2, s2⟩, hW₁, X', ⟨g', mk, t, L, e1, e2, hq, h1, hL, h2, h3⟩, st⟩ := vx_callVW X hx (C := C) (hh := hh) (bytes := bytes) (maxL := maxL) (ret := ret) ho hl hin hse hcode hy hK (by rw [hT]; exact hcB) hoB hclB hg (hsize.trans hml.symm) (argsL := As) (rest := rest) (fun sig h => hn.trans (hlen sig h)) hstack hW (by rw [hb]; exact hdg)
    (fun vm₁ hW₁ => ⟨hf.1, hf.2, hPc (T.setVm vm₁) hT hW₁⟩)
  dsimp only [Pt.U, Pt.locs, Pt.cells, Pt.slots] at X' e1 e2 h1 h2 h3 st
  subst h1; subst h2; subst h3
  exact ⟨v, (T.setVm vm₁).calling g' mk (Value.ref b :: As).toArray, t, U', L, hT, X', hL, e1, e2, hq, st⟩
section
variable {y : MethodName} {bytes cc : ByteArray} {maxL nL mc ms n index : Nat} {ret : Option FieldType} {ws : List Cond} {rm : Room} {Pc : Array Value → State → Prop} {Qc : Array Value → State → Outcome → State → Prop} {XC : String → State → State → Prop} {free : Addr → Prop} {Ts : List Cond} {own C : String} {b : Addr} {As rest : List Value} {g : JFrame}
theorem vx_runVX {hh : List (Nat × Nat × Nat × Nat)} (S : CallFix p m c cc nL s args Ts own) (hM : vx_Met l y ws rm Pc Qc XC mc ms free) (cw : vx_CVW R s args own C index y bytes maxL ret hh ws rm mc ms n) (hp : PreV s H C b Pc As)
    (hg : g.method = m) (hn : As.length = n) (hsize : g.locals.size = nL) (hstack : g.stack = As.reverse ++ .ref b :: rest) (hW : 2 * g.monitorRoom + (rest.map fun v => v.category).sum ≤ 8) (hdg : decode cc g.pc = .ok (.invokevirtual index, 3)) (hf : cells + mc ≤ R.cells ∧ slots + ms ≤ R.slots) :
    vx_Run p l e R s m args below meth c H locs cells slots mc ms g rest (Qc (Value.ref b :: As).toArray) XC free := by
  obtain ⟨⟨hrc, hrs, hfr, hlo, hws, hcw⟩, hcode, hini, hy, hlen, hl, hin, hse⟩ := cw
  have hK : vx_Back l R p e below s args y 3 8 (PreOf R mc ms Pc) (PostOf Qc mc ms free) (vx_Post XC mc ms free) := vx_backW (hh := hh) (bytes := bytes) (maxL := maxL) (ret := ret) hM hp.1 hrc hrs hfr hlo hws hcw (fun a' U hW => word_at hW (Or.inl (by first | rfl | simp [Cond.onTables, Cond.keeps, Cond.steady])) hini)
  obtain ⟨hx, hb, hml, ho, -⟩ := S
  obtain ⟨-, ⟨cellB, hcB, hoB, hclB⟩, hPc⟩ := hp
  intro T hT X
  rcases vx_callVX X hx (C := C) (hh := hh) (bytes := bytes) (maxL := maxL) (ret := ret) ho hl hin hse hcode hy hK (by rw [hT]; exact hcB) hoB hclB hg (hsize.trans hml.symm) (argsL := As) (rest := rest) (fun sig h => hn.trans (hlen sig h)) hstack hW (by rw [hb]; exact hdg)
    (fun vm₁ hW₁ => ⟨hf.1, hf.2, hPc (T.setVm vm₁) hT hW₁⟩) with ⟨v, vm₁, ⟨U', l2, c2, s2⟩, hW₁, X', ⟨g', mk, t, L, e1, e2, hq, h1, hL, h2, h3⟩, st⟩ | ⟨q, vm₁, ⟨U', l2, c2, s2⟩, hW₁, X', ⟨g', mk, t, L, E, ce, e1, e2, hq, hce, hcv, hcl, h1, hL, h2, h3⟩, st⟩
  · dsimp only [Pt.U, Pt.locs, Pt.cells, Pt.slots] at X' e1 e2 h1 h2 h3 st
    subst h1; subst h2; subst h3
    exact Or.inl ⟨v, (T.setVm vm₁).calling g' mk (Value.ref b :: As).toArray, t, U', L, hT, X', hL, e1, e2, hq, st⟩
  · dsimp only [Pt.U, Pt.locs, Pt.cells, Pt.slots] at X' e1 e2 h1 h2 h3 st hcl
    subst h1; subst h2; subst h3
    exact Or.inr ⟨q, (T.setVm vm₁).calling g' mk (Value.ref b :: As).toArray, t, U', L, E, ce, hT, X', hL, e1, e2, hq, hce, hcv, vx_cls hW₁ hcl, st⟩
theorem vx_runSX {hh : List (Nat × Nat × Nat × Nat)} (S : CallFix p m c cc nL s args Ts own) (hM : vx_Met l y ws rm Pc Qc XC mc ms free) (cw : vx_CSW R s args own index y bytes maxL ret hh ws rm mc ms n) (hp : PreS s H Pc As)
    (hg : g.method = m) (hn : As.length = n) (hsize : g.locals.size = nL) (hstack : g.stack = As.reverse ++ rest) (hW : 2 * g.monitorRoom + (rest.map fun v => v.category).sum ≤ 8) (hdg : decode cc g.pc = .ok (.invokestatic index, 3)) (hf : cells + mc ≤ R.cells ∧ slots + ms ≤ R.slots) :
    vx_Run p l e R s m args below meth c H locs cells slots mc ms g rest (Qc As.toArray) XC free := by
  obtain ⟨⟨hrc, hrs, hfr, hlo, hws, hcw⟩, hcode, hini, hy, hlen, hl, hstt⟩ := cw
  have hK : vx_Back l R p e below s args y 3 8 (PreOf R mc ms Pc) (PostOf Qc mc ms free) (vx_Post XC mc ms free) := vx_backW (hh := hh) (bytes := bytes) (maxL := maxL) (ret := ret) hM hp.1 hrc hrs hfr hlo hws hcw (fun a' U hW => word_at hW (Or.inl (by first | rfl | simp [Cond.onTables, Cond.keeps, Cond.steady])) hini)
  obtain ⟨hx, hb, hml, ho, -⟩ := S
  intro T hT X
  rcases vx_callSX X hx (hh := hh) (bytes := bytes) (maxL := maxL) (ret := ret) ho hl hstt hini hcode hy hK hg (hsize.trans hml.symm) (argsL := As) (rest := rest) (fun sig h => hn.trans (hlen sig h)) hstack hW (by rw [hb]; exact hdg)
    (fun vm₁ hW₁ => ⟨hf.1, hf.2, hp.2 (T.setVm vm₁) hT hW₁⟩) with ⟨v, vm₁, ⟨U', l2, c2, s2⟩, hW₁, X', ⟨g', mk, t, L, e1, e2, hq, h1, hL, h2, h3⟩, st⟩ | ⟨q, vm₁, ⟨U', l2, c2, s2⟩, hW₁, X', ⟨g', mk, t, L, E, ce, e1, e2, hq, hce, hcv, hcl, h1, hL, h2, h3⟩, st⟩
  · dsimp only [Pt.U, Pt.locs, Pt.cells, Pt.slots] at X' e1 e2 h1 h2 h3 st
    subst h1; subst h2; subst h3
    exact Or.inl ⟨v, (T.setVm vm₁).calling g' mk As.toArray, t, U', L, hT, X', hL, e1, e2, hq, st⟩
  · dsimp only [Pt.U, Pt.locs, Pt.cells, Pt.slots] at X' e1 e2 h1 h2 h3 st hcl
    subst h1; subst h2; subst h3
    exact Or.inr ⟨q, (T.setVm vm₁).calling g' mk As.toArray, t, U', L, E, ce, hT, X', hL, e1, e2, hq, hce, hcv, vx_cls hW₁ hcl, st⟩
end
end VXH
theorem vx_ofWH {l : Launch} {y : MethodName} {ws ws' : List Cond} {rm : Room} {Pc : Array Value → State → Prop} {Qc : Array Value → State → Outcome → State → Prop} {XC : String → State → State → Prop} {mc ms : Nat} {free : Addr → Prop} {cc : ByteArray} {maxL : Nat} {ret : Option FieldType} {hh : List (Nat × Nat × Nat × Nat)}
    (hy : plainName y.cls = true) (hw : ws = Cond.codeWith y cc maxL ret hh :: ws')
    (body : ∀ p e s m args below meth c s₁, BodyLoose p l y (headSpec ws rm) cc maxL ret e s m args below meth c s₁ → c.maxLocals = maxL → Pc args s →
      W p l e (headSpec ws rm).room s m args below meth c s.heap [] 0 0 (vx_MQ below Qc XC args s mc ms free) (entryFrame m args maxL)) : vx_Met l y ws rm Pc Qc XC mc ms free := by
  refine MetFree.of_bodyS (code := cc) (maxLocals := maxL) (ret := ret) hy ?_ ?_
  · intro args s m h hn
    obtain ⟨m9, meth, c, hn9, h1, h2, h3, h4, -, h5, h6, -⟩ := Cond.codeWith_spec (atoms_spec (ws := ws) h _ (by rw [hw]; exact List.mem_cons_self))
    cases hn.symm.trans hn9
    exact ⟨meth, c, h1, h2, h3, h4, h5, h6⟩
  · intro p e s m args below meth c s₁ B hml hP _
    have hh0 : s₁.heap = s.heap := by rw [B.state]; rfl
    obtain ⟨t, a1, o, b1, b2, b3⟩ := body p e s m args below meth c s₁ B hml hP s₁ hh0 (Stand.of_body B)
    exact ⟨t, o, a1, b1, b2, b3⟩
/-! ===== END ===== -/
end
section
/-! ===== BEGIN printed: names, fields, word lists, decode rows ===== -/
def RX0 : String := "PaintedDie$Board"
def TX0 : u_T := fun k => match k with
  | 0 => ("PaintedDie$Board", "isWalled", "[Z", true)
  | 1 => ("PaintedDie$Board", "printed", "[I", true)
  | 2 => ("PaintedDie$Board", "width", "I", false)
  | _ => ("PaintedDie$Board", "height", "I", false)
def tyX0 : Nat → FieldType := fun k => match k with
  | 0 => .array .boolean
  | 1 => .array .int
  | 2 => .int
  | _ => .int
abbrev wsX00 : List Cond := u_ws RX0 TX0 4
theorem nmX0 : ∀ a, a < 4 → ∀ b, b < 4 → a ≠ b → (TX0 a).2.1 ≠ (TX0 b).2.1 := by decide +kernel
theorem tyX0_ok : ∀ k, k < 4 → parseFieldDescriptor (TX0 k).2.2.1 = some (tyX0 k) := by decide +kernel
abbrev cX0_init : ByteArray := prog_2_method_1_code
def yX0_init : MethodName := ⟨RX0, "<init>", "()V"⟩
abbrev cX0_cellAt : ByteArray := prog_2_method_2_code
def yX0_cellAt : MethodName := ⟨RX0, "cellAt", "(II)I"⟩
abbrev cX0_columnOf : ByteArray := prog_2_method_3_code
def yX0_columnOf : MethodName := ⟨RX0, "columnOf", "(I)I"⟩
abbrev cX0_rowOf : ByteArray := prog_2_method_4_code
def yX0_rowOf : MethodName := ⟨RX0, "rowOf", "(I)I"⟩
abbrev cX0_layOut : ByteArray := prog_2_method_5_code
def yX0_layOut : MethodName := ⟨RX0, "layOut", "(II)V"⟩
abbrev cX0_has : ByteArray := prog_2_method_6_code
def yX0_has : MethodName := ⟨RX0, "has", "(II)Z"⟩
abbrev cX0_isFree : ByteArray := prog_2_method_7_code
def yX0_isFree : MethodName := ⟨RX0, "isFree", "(II)Z"⟩
abbrev cX0_isFreeCell : ByteArray := prog_2_method_8_code
def yX0_isFreeCell : MethodName := ⟨RX0, "isFreeCell", "(I)Z"⟩
abbrev cX0_printOn : ByteArray := prog_2_method_9_code
def yX0_printOn : MethodName := ⟨RX0, "printOn", "(II)I"⟩
abbrev cX0_printOnto : ByteArray := prog_2_method_10_code
def yX0_printOnto : MethodName := ⟨RX0, "printOnto", "(II)V"⟩
abbrev cX0_turnOver : ByteArray := prog_2_method_11_code
def yX0_turnOver : MethodName := ⟨RX0, "turnOver", "(I)Z"⟩
abbrev cX0_nextCell : ByteArray := prog_2_method_12_code
def yX0_nextCell : MethodName := ⟨RX0, "nextCell", "(II)I"⟩
abbrev cX0_countWalls : ByteArray := prog_2_method_13_code
def yX0_countWalls : MethodName := ⟨RX0, "countWalls", "()I"⟩
abbrev cX0_countPrints : ByteArray := prog_2_method_14_code
def yX0_countPrints : MethodName := ⟨RX0, "countPrints", "(I)I"⟩
def RX1 : String := "PaintedDie$Search"
def TX1 : u_T := fun k => match k with
  | 0 => ("PaintedDie$Search", "fewest", "[I", true)
  | 1 => ("PaintedDie$Search", "queue", "[I", true)
  | _ => ("PaintedDie$Search", "found", "I", false)
def tyX1 : Nat → FieldType := fun k => match k with
  | 0 => .array .int
  | 1 => .array .int
  | _ => .int
abbrev wsX10 : List Cond := u_ws RX1 TX1 3
theorem nmX1 : ∀ a, a < 3 → ∀ b, b < 3 → a ≠ b → (TX1 a).2.1 ≠ (TX1 b).2.1 := by decide +kernel
theorem tyX1_ok : ∀ k, k < 3 → parseFieldDescriptor (TX1 k).2.2.1 = some (tyX1 k) := by decide +kernel
abbrev cX1_init : ByteArray := prog_3_method_1_code
def yX1_init : MethodName := ⟨RX1, "<init>", "()V"⟩
abbrev cX1_forget : ByteArray := prog_3_method_2_code
def yX1_forget : MethodName := ⟨RX1, "forget", "()V"⟩
abbrev cX1_reach : ByteArray := prog_3_method_3_code
def yX1_reach : MethodName := ⟨RX1, "reach", "(III)V"⟩
abbrev cX1_spread : ByteArray := prog_3_method_4_code
def yX1_spread : MethodName := ⟨RX1, "spread", "(LPaintedDie$Board;)V"⟩
abbrev cX1_rollsAt : ByteArray := prog_3_method_5_code
def yX1_rollsAt : MethodName := ⟨RX1, "rollsAt", "(II)I"⟩
abbrev cX1_fewestWithTop : ByteArray := prog_3_method_6_code
def yX1_fewestWithTop : MethodName := ⟨RX1, "fewestWithTop", "(II)I"⟩
abbrev cX1_fewestTo : ByteArray := prog_3_method_7_code
def yX1_fewestTo : MethodName := ⟨RX1, "fewestTo", "(I)I"⟩
abbrev cX1_countTops : ByteArray := prog_3_method_8_code
def yX1_countTops : MethodName := ⟨RX1, "countTops", "(I)I"⟩
abbrev cX1_fewerOf : ByteArray := prog_3_method_9_code
def yX1_fewerOf : MethodName := ⟨RX1, "fewerOf", "(II)I"⟩
def RX2 : String := "PaintedDie$Turn"
def TX2 : u_T := fun k => match k with
  | _ => ("", "", "", false)
def tyX2 : Nat → FieldType := fun k => match k with
  | _ => .int
abbrev wsX20 : List Cond := u_ws RX2 TX2 0
theorem nmX2 : ∀ a, a < 0 → ∀ b, b < 0 → a ≠ b → (TX2 a).2.1 ≠ (TX2 b).2.1 := by decide +kernel
theorem tyX2_ok : ∀ k, k < 0 → parseFieldDescriptor (TX2 k).2.2.1 = some (tyX2 k) := by decide +kernel
abbrev cX2_with : ByteArray := prog_4_method_2_code
def yX2_with : MethodName := ⟨RX2, "with", "(II)I"⟩
abbrev cX2_topOf : ByteArray := prog_4_method_3_code
def yX2_topOf : MethodName := ⟨RX2, "topOf", "(I)I"⟩
abbrev cX2_northOf : ByteArray := prog_4_method_4_code
def yX2_northOf : MethodName := ⟨RX2, "northOf", "(I)I"⟩
abbrev cX2_eastOf : ByteArray := prog_4_method_5_code
def yX2_eastOf : MethodName := ⟨RX2, "eastOf", "(I)I"⟩
abbrev cX2_axisOf : ByteArray := prog_4_method_6_code
def yX2_axisOf : MethodName := ⟨RX2, "axisOf", "(I)I"⟩
abbrev cX2_faceOn : ByteArray := prog_4_method_7_code
def yX2_faceOn : MethodName := ⟨RX2, "faceOn", "(II)I"⟩
abbrev cX2_behindRoll : ByteArray := prog_4_method_8_code
def yX2_behindRoll : MethodName := ⟨RX2, "behindRoll", "(II)I"⟩
def RX3 : String := "PaintedDie"
def TX3 : u_T := fun k => match k with
  | 0 => ("PaintedDie", "board", "LPaintedDie$Board;", true)
  | 1 => ("PaintedDie", "search", "LPaintedDie$Search;", true)
  | 2 => ("PaintedDie", "colours", "[I", true)
  | 3 => ("PaintedDie", "paints", "[I", true)
  | 4 => ("PaintedDie", "cell", "I", false)
  | 5 => ("PaintedDie", "turn", "I", false)
  | 6 => ("PaintedDie", "rollsMade", "I", false)
  | _ => ("PaintedDie", "printsMade", "I", false)
def tyX3 : Nat → FieldType := fun k => match k with
  | 0 => .object "PaintedDie$Board"
  | 1 => .object "PaintedDie$Search"
  | 2 => .array .int
  | 3 => .array .int
  | 4 => .int
  | 5 => .int
  | 6 => .int
  | _ => .int
abbrev wsX30 : List Cond := u_ws RX3 TX3 8
theorem nmX3 : ∀ a, a < 8 → ∀ b, b < 8 → a ≠ b → (TX3 a).2.1 ≠ (TX3 b).2.1 := by decide +kernel
theorem tyX3_ok : ∀ k, k < 8 → parseFieldDescriptor (TX3 k).2.2.1 = some (tyX3 k) := by decide +kernel
abbrev cX3_init : ByteArray := prog_1_method_1_code
def yX3_init : MethodName := ⟨RX3, "<init>", "()V"⟩
abbrev cX3_newBoard : ByteArray := prog_1_method_2_code
def yX3_newBoard : MethodName := ⟨RX3, "newBoard", "(II)I"⟩
abbrev cX3_turnWall : ByteArray := prog_1_method_3_code
def yX3_turnWall : MethodName := ⟨RX3, "turnWall", "(II)Z"⟩
abbrev cX3_setColour : ByteArray := prog_1_method_4_code
def yX3_setColour : MethodName := ⟨RX3, "setColour", "(II)I"⟩
abbrev cX3_addPaint : ByteArray := prog_1_method_5_code
def yX3_addPaint : MethodName := ⟨RX3, "addPaint", "(II)I"⟩
abbrev cX3_put : ByteArray := prog_1_method_6_code
def yX3_put : MethodName := ⟨RX3, "put", "(II)I"⟩
abbrev cX3_roll : ByteArray := prog_1_method_7_code
def yX3_roll : MethodName := ⟨RX3, "roll", "(I)I"⟩
abbrev cX3_rollOn : ByteArray := prog_1_method_8_code
def yX3_rollOn : MethodName := ⟨RX3, "rollOn", "(II)I"⟩
abbrev cX3_column : ByteArray := prog_1_method_9_code
def yX3_column : MethodName := ⟨RX3, "column", "()I"⟩
abbrev cX3_row : ByteArray := prog_1_method_10_code
def yX3_row : MethodName := ⟨RX3, "row", "()I"⟩
abbrev cX3_top : ByteArray := prog_1_method_11_code
def yX3_top : MethodName := ⟨RX3, "top", "()I"⟩
abbrev cX3_bottom : ByteArray := prog_1_method_12_code
def yX3_bottom : MethodName := ⟨RX3, "bottom", "()I"⟩
abbrev cX3_faceTo : ByteArray := prog_1_method_13_code
def yX3_faceTo : MethodName := ⟨RX3, "faceTo", "(I)I"⟩
abbrev cX3_isAsAtFirst : ByteArray := prog_1_method_14_code
def yX3_isAsAtFirst : MethodName := ⟨RX3, "isAsAtFirst", "()Z"⟩
abbrev cX3_colourOf : ByteArray := prog_1_method_15_code
def yX3_colourOf : MethodName := ⟨RX3, "colourOf", "(I)I"⟩
abbrev cX3_paintOf : ByteArray := prog_1_method_16_code
def yX3_paintOf : MethodName := ⟨RX3, "paintOf", "(I)I"⟩
abbrev cX3_isWall : ByteArray := prog_1_method_17_code
def yX3_isWall : MethodName := ⟨RX3, "isWall", "(II)Z"⟩
abbrev cX3_printAt : ByteArray := prog_1_method_18_code
def yX3_printAt : MethodName := ⟨RX3, "printAt", "(II)I"⟩
abbrev cX3_canRoll : ByteArray := prog_1_method_19_code
def yX3_canRoll : MethodName := ⟨RX3, "canRoll", "(I)Z"⟩
abbrev cX3_width : ByteArray := prog_1_method_20_code
def yX3_width : MethodName := ⟨RX3, "width", "()I"⟩
abbrev cX3_height : ByteArray := prog_1_method_21_code
def yX3_height : MethodName := ⟨RX3, "height", "()I"⟩
abbrev cX3_walls : ByteArray := prog_1_method_22_code
def yX3_walls : MethodName := ⟨RX3, "walls", "()I"⟩
abbrev cX3_rolls : ByteArray := prog_1_method_23_code
def yX3_rolls : MethodName := ⟨RX3, "rolls", "()I"⟩
abbrev cX3_prints : ByteArray := prog_1_method_24_code
def yX3_prints : MethodName := ⟨RX3, "prints", "()I"⟩
abbrev cX3_cellsWith : ByteArray := prog_1_method_25_code
def yX3_cellsWith : MethodName := ⟨RX3, "cellsWith", "(I)I"⟩
abbrev cX3_fewestRolls : ByteArray := prog_1_method_26_code
def yX3_fewestRolls : MethodName := ⟨RX3, "fewestRolls", "(II)I"⟩
abbrev cX3_fewestRollsWithTop : ByteArray := prog_1_method_27_code
def yX3_fewestRollsWithTop : MethodName := ⟨RX3, "fewestRollsWithTop", "(III)I"⟩
abbrev cX3_firstRoll : ByteArray := prog_1_method_28_code
def yX3_firstRoll : MethodName := ⟨RX3, "firstRoll", "(III)I"⟩
abbrev cX3_topsAt : ByteArray := prog_1_method_29_code
def yX3_topsAt : MethodName := ⟨RX3, "topsAt", "(II)I"⟩
abbrev cX3_cellsWithinReach : ByteArray := prog_1_method_30_code
def yX3_cellsWithinReach : MethodName := ⟨RX3, "cellsWithinReach", "()I"⟩
abbrev cX3_waysToLie : ByteArray := prog_1_method_31_code
def yX3_waysToLie : MethodName := ⟨RX3, "waysToLie", "()I"⟩
abbrev cX3_cellsBehind : ByteArray := prog_1_method_32_code
def yX3_cellsBehind : MethodName := ⟨RX3, "cellsBehind", "(I)I"⟩
abbrev cX3_bestPut : ByteArray := prog_1_method_33_code
def yX3_bestPut : MethodName := ⟨RX3, "bestPut", "(I)I"⟩
abbrev cX3_meanPaint : ByteArray := prog_1_method_34_code
def yX3_meanPaint : MethodName := ⟨RX3, "meanPaint", "()D"⟩
abbrev cX3_digest : ByteArray := prog_1_method_35_code
def yX3_digest : MethodName := ⟨RX3, "digest", "()J"⟩
abbrev cX3_joinedWithCells : ByteArray := prog_1_method_36_code
def yX3_joinedWithCells : MethodName := ⟨RX3, "joinedWithCells", "(J)J"⟩
abbrev cX3_joined : ByteArray := prog_1_method_37_code
def yX3_joined : MethodName := ⟨RX3, "joined", "(JI)J"⟩
abbrev cX3_startOn : ByteArray := prog_1_method_38_code
def yX3_startOn : MethodName := ⟨RX3, "startOn", "(II)V"⟩
abbrev cX3_rollOnce : ByteArray := prog_1_method_39_code
def yX3_rollOnce : MethodName := ⟨RX3, "rollOnce", "(I)Z"⟩
abbrev cX3_printHere : ByteArray := prog_1_method_40_code
def yX3_printHere : MethodName := ⟨RX3, "printHere", "()V"⟩
abbrev cX3_isShutIn : ByteArray := prog_1_method_41_code
def yX3_isShutIn : MethodName := ⟨RX3, "isShutIn", "()Z"⟩
abbrev cX3_searchFromHere : ByteArray := prog_1_method_42_code
def yX3_searchFromHere : MethodName := ⟨RX3, "searchFromHere", "()V"⟩
abbrev cX3_searchBackFrom : ByteArray := prog_1_method_43_code
def yX3_searchBackFrom : MethodName := ⟨RX3, "searchBackFrom", "(II)V"⟩
abbrev cX3_checkCell : ByteArray := prog_1_method_44_code
def yX3_checkCell : MethodName := ⟨RX3, "checkCell", "(II)V"⟩
abbrev cX3_checkFace : ByteArray := prog_1_method_45_code
def yX3_checkFace : MethodName := ⟨RX3, "checkFace", "(I)V"⟩
abbrev cX3_checkDirection : ByteArray := prog_1_method_46_code
def yX3_checkDirection : MethodName := ⟨RX3, "checkDirection", "(I)V"⟩
abbrev cX3_isFace : ByteArray := prog_1_method_47_code
def yX3_isFace : MethodName := ⟨RX3, "isFace", "(I)Z"⟩
abbrev cX3_isSide : ByteArray := prog_1_method_48_code
def yX3_isSide : MethodName := ⟨RX3, "isSide", "(I)Z"⟩
def RX4 : String := "PaintedDieModel"
def TX4 : u_T := fun k => match k with
  | 0 => ("PaintedDieModel", "thrown", "I", false)
  | 1 => ("PaintedDieModel", "w", "I", false)
  | 2 => ("PaintedDieModel", "h", "I", false)
  | 3 => ("PaintedDieModel", "isWall", "[Z", true)
  | 4 => ("PaintedDieModel", "print", "[I", true)
  | 5 => ("PaintedDieModel", "colour", "[I", true)
  | 6 => ("PaintedDieModel", "paint", "[I", true)
  | 7 => ("PaintedDieModel", "rolls", "I", false)
  | 8 => ("PaintedDieModel", "prints", "I", false)
  | 9 => ("PaintedDieModel", "cell", "I", false)
  | 10 => ("PaintedDieModel", "top", "I", false)
  | 11 => ("PaintedDieModel", "north", "I", false)
  | 12 => ("PaintedDieModel", "east", "I", false)
  | 13 => ("PaintedDieModel", "itsCell", "I", false)
  | 14 => ("PaintedDieModel", "itsTop", "I", false)
  | 15 => ("PaintedDieModel", "itsNorth", "I", false)
  | 16 => ("PaintedDieModel", "itsEast", "I", false)
  | 17 => ("PaintedDieModel", "far", "[I", true)
  | 18 => ("PaintedDieModel", "cells", "[I", true)
  | 19 => ("PaintedDieModel", "tops", "[I", true)
  | 20 => ("PaintedDieModel", "norths", "[I", true)
  | 21 => ("PaintedDieModel", "easts", "[I", true)
  | 22 => ("PaintedDieModel", "reached", "I", false)
  | 23 => ("PaintedDieModel", "isOn", "[Z", true)
  | _ => ("PaintedDieModel", "isNext", "[Z", true)
def tyX4 : Nat → FieldType := fun k => match k with
  | 0 => .int
  | 1 => .int
  | 2 => .int
  | 3 => .array .boolean
  | 4 => .array .int
  | 5 => .array .int
  | 6 => .array .int
  | 7 => .int
  | 8 => .int
  | 9 => .int
  | 10 => .int
  | 11 => .int
  | 12 => .int
  | 13 => .int
  | 14 => .int
  | 15 => .int
  | 16 => .int
  | 17 => .array .int
  | 18 => .array .int
  | 19 => .array .int
  | 20 => .array .int
  | 21 => .array .int
  | 22 => .int
  | 23 => .array .boolean
  | _ => .array .boolean
abbrev wsX40 : List Cond := u_ws RX4 TX4 25
theorem nmX4 : ∀ a, a < 25 → ∀ b, b < 25 → a ≠ b → (TX4 a).2.1 ≠ (TX4 b).2.1 := by decide +kernel
theorem tyX4_ok : ∀ k, k < 25 → parseFieldDescriptor (TX4 k).2.2.1 = some (tyX4 k) := by decide +kernel
abbrev cX4_init : ByteArray := prog_6_method_1_code
def yX4_init : MethodName := ⟨RX4, "<init>", "()V"⟩
abbrev cX4_thrown : ByteArray := prog_6_method_2_code
def yX4_thrown : MethodName := ⟨RX4, "thrown", "()I"⟩
abbrev cX4_no : ByteArray := prog_6_method_3_code
def yX4_no : MethodName := ⟨RX4, "no", "(I)I"⟩
abbrev cX4_isNot : ByteArray := prog_6_method_4_code
def yX4_isNot : MethodName := ⟨RX4, "isNot", "(I)Z"⟩
abbrev cX4_isIn : ByteArray := prog_6_method_5_code
def yX4_isIn : MethodName := ⟨RX4, "isIn", "(III)Z"⟩
abbrev cX4_isCell : ByteArray := prog_6_method_6_code
def yX4_isCell : MethodName := ⟨RX4, "isCell", "(II)Z"⟩
abbrev cX4_isFace : ByteArray := prog_6_method_7_code
def yX4_isFace : MethodName := ⟨RX4, "isFace", "(I)Z"⟩
abbrev cX4_isSide : ByteArray := prog_6_method_8_code
def yX4_isSide : MethodName := ⟨RX4, "isSide", "(I)Z"⟩
abbrev cX4_turnAsAtFirst : ByteArray := prog_6_method_9_code
def yX4_turnAsAtFirst : MethodName := ⟨RX4, "turnAsAtFirst", "()V"⟩
abbrev cX4_take : ByteArray := prog_6_method_10_code
def yX4_take : MethodName := ⟨RX4, "take", "(II)V"⟩
abbrev cX4_beside : ByteArray := prog_6_method_11_code
def yX4_beside : MethodName := ⟨RX4, "beside", "(II)I"⟩
abbrev cX4_look : ByteArray := prog_6_method_12_code
def yX4_look : MethodName := ⟨RX4, "look", "()V"⟩
abbrev cX4_lookFirst : ByteArray := prog_6_method_13_code
def yX4_lookFirst : MethodName := ⟨RX4, "lookFirst", "(I)V"⟩
abbrev cX4_lookAt : ByteArray := prog_6_method_14_code
def yX4_lookAt : MethodName := ⟨RX4, "lookAt", "(I)V"⟩
abbrev cX4_tip : ByteArray := prog_6_method_15_code
def yX4_tip : MethodName := ⟨RX4, "tip", "(II)V"⟩
abbrev cX4_rolled : ByteArray := prog_6_method_16_code
def yX4_rolled : MethodName := ⟨RX4, "rolled", "(I)Z"⟩
abbrev cX4_newBoard : ByteArray := prog_6_method_17_code
def yX4_newBoard : MethodName := ⟨RX4, "newBoard", "(II)I"⟩
abbrev cX4_turnWall : ByteArray := prog_6_method_18_code
def yX4_turnWall : MethodName := ⟨RX4, "turnWall", "(II)Z"⟩
abbrev cX4_setColour : ByteArray := prog_6_method_19_code
def yX4_setColour : MethodName := ⟨RX4, "setColour", "(II)I"⟩
abbrev cX4_addPaint : ByteArray := prog_6_method_20_code
def yX4_addPaint : MethodName := ⟨RX4, "addPaint", "(II)I"⟩
abbrev cX4_put : ByteArray := prog_6_method_21_code
def yX4_put : MethodName := ⟨RX4, "put", "(II)I"⟩
abbrev cX4_roll : ByteArray := prog_6_method_22_code
def yX4_roll : MethodName := ⟨RX4, "roll", "(I)I"⟩
abbrev cX4_rolledOn : ByteArray := prog_6_method_23_code
def yX4_rolledOn : MethodName := ⟨RX4, "rolledOn", "(II)I"⟩
abbrev cX4_rollOn : ByteArray := prog_6_method_24_code
def yX4_rollOn : MethodName := ⟨RX4, "rollOn", "(II)I"⟩
abbrev cX4_ok : ByteArray := prog_6_method_25_code
def yX4_ok : MethodName := ⟨RX4, "ok", "(I)I"⟩
abbrev cX4_column : ByteArray := prog_6_method_26_code
def yX4_column : MethodName := ⟨RX4, "column", "()I"⟩
abbrev cX4_row : ByteArray := prog_6_method_27_code
def yX4_row : MethodName := ⟨RX4, "row", "()I"⟩
abbrev cX4_top : ByteArray := prog_6_method_28_code
def yX4_top : MethodName := ⟨RX4, "top", "()I"⟩
abbrev cX4_bottom : ByteArray := prog_6_method_29_code
def yX4_bottom : MethodName := ⟨RX4, "bottom", "()I"⟩
abbrev cX4_side : ByteArray := prog_6_method_30_code
def yX4_side : MethodName := ⟨RX4, "side", "(I)I"⟩
abbrev cX4_faceTo : ByteArray := prog_6_method_31_code
def yX4_faceTo : MethodName := ⟨RX4, "faceTo", "(I)I"⟩
abbrev cX4_isAsAtFirst : ByteArray := prog_6_method_32_code
def yX4_isAsAtFirst : MethodName := ⟨RX4, "isAsAtFirst", "()Z"⟩
abbrev cX4_colourOf : ByteArray := prog_6_method_33_code
def yX4_colourOf : MethodName := ⟨RX4, "colourOf", "(I)I"⟩
abbrev cX4_paintOf : ByteArray := prog_6_method_34_code
def yX4_paintOf : MethodName := ⟨RX4, "paintOf", "(I)I"⟩
abbrev cX4_isWall : ByteArray := prog_6_method_35_code
def yX4_isWall : MethodName := ⟨RX4, "isWall", "(II)Z"⟩
abbrev cX4_printAt : ByteArray := prog_6_method_36_code
def yX4_printAt : MethodName := ⟨RX4, "printAt", "(II)I"⟩
abbrev cX4_canRoll : ByteArray := prog_6_method_37_code
def yX4_canRoll : MethodName := ⟨RX4, "canRoll", "(I)Z"⟩
abbrev cX4_width : ByteArray := prog_6_method_38_code
def yX4_width : MethodName := ⟨RX4, "width", "()I"⟩
abbrev cX4_height : ByteArray := prog_6_method_39_code
def yX4_height : MethodName := ⟨RX4, "height", "()I"⟩
abbrev cX4_wallsThere : ByteArray := prog_6_method_40_code
def yX4_wallsThere : MethodName := ⟨RX4, "wallsThere", "()I"⟩
abbrev cX4_walls : ByteArray := prog_6_method_41_code
def yX4_walls : MethodName := ⟨RX4, "walls", "()I"⟩
abbrev cX4_rolls : ByteArray := prog_6_method_42_code
def yX4_rolls : MethodName := ⟨RX4, "rolls", "()I"⟩
abbrev cX4_prints : ByteArray := prog_6_method_43_code
def yX4_prints : MethodName := ⟨RX4, "prints", "()I"⟩
abbrev cX4_cellsWith : ByteArray := prog_6_method_44_code
def yX4_cellsWith : MethodName := ⟨RX4, "cellsWith", "(I)I"⟩
abbrev cX4_reach : ByteArray := prog_6_method_45_code
def yX4_reach : MethodName := ⟨RX4, "reach", "(I)V"⟩
abbrev cX4_farOf : ByteArray := prog_6_method_46_code
def yX4_farOf : MethodName := ⟨RX4, "farOf", "(I)I"⟩
abbrev cX4_spread : ByteArray := prog_6_method_47_code
def yX4_spread : MethodName := ⟨RX4, "spread", "()V"⟩
abbrev cX4_fewestTo : ByteArray := prog_6_method_48_code
def yX4_fewestTo : MethodName := ⟨RX4, "fewestTo", "(II)I"⟩
abbrev cX4_fewest : ByteArray := prog_6_method_49_code
def yX4_fewest : MethodName := ⟨RX4, "fewest", "(II)I"⟩
abbrev cX4_fewestRolls : ByteArray := prog_6_method_50_code
def yX4_fewestRolls : MethodName := ⟨RX4, "fewestRolls", "(II)I"⟩
abbrev cX4_fewestRollsWithTop : ByteArray := prog_6_method_51_code
def yX4_fewestRollsWithTop : MethodName := ⟨RX4, "fewestRollsWithTop", "(III)I"⟩
abbrev cX4_first : ByteArray := prog_6_method_52_code
def yX4_first : MethodName := ⟨RX4, "first", "(II)I"⟩
abbrev cX4_firstRoll : ByteArray := prog_6_method_53_code
def yX4_firstRoll : MethodName := ⟨RX4, "firstRoll", "(III)I"⟩
abbrev cX4_topsOn : ByteArray := prog_6_method_54_code
def yX4_topsOn : MethodName := ⟨RX4, "topsOn", "(I)I"⟩
abbrev cX4_topsAt : ByteArray := prog_6_method_55_code
def yX4_topsAt : MethodName := ⟨RX4, "topsAt", "(II)I"⟩
abbrev cX4_cellsWithinReach : ByteArray := prog_6_method_56_code
def yX4_cellsWithinReach : MethodName := ⟨RX4, "cellsWithinReach", "()I"⟩
abbrev cX4_waysToLie : ByteArray := prog_6_method_57_code
def yX4_waysToLie : MethodName := ⟨RX4, "waysToLie", "()I"⟩
abbrev cX4_goOn : ByteArray := prog_6_method_58_code
def yX4_goOn : MethodName := ⟨RX4, "goOn", "()V"⟩
abbrev cX4_behind : ByteArray := prog_6_method_59_code
def yX4_behind : MethodName := ⟨RX4, "behind", "(I)I"⟩
abbrev cX4_cellsBehind : ByteArray := prog_6_method_60_code
def yX4_cellsBehind : MethodName := ⟨RX4, "cellsBehind", "(I)I"⟩
abbrev cX4_best : ByteArray := prog_6_method_61_code
def yX4_best : MethodName := ⟨RX4, "best", "(I)I"⟩
abbrev cX4_bestPut : ByteArray := prog_6_method_62_code
def yX4_bestPut : MethodName := ⟨RX4, "bestPut", "(I)I"⟩
abbrev cX4_meanPaint : ByteArray := prog_6_method_63_code
def yX4_meanPaint : MethodName := ⟨RX4, "meanPaint", "()D"⟩
abbrev cX4_digest : ByteArray := prog_6_method_64_code
def yX4_digest : MethodName := ⟨RX4, "digest", "()J"⟩
def RJx145de : String := "java/io/Serializable"
def TJx145de : u_T := fun k => match k with
  | _ => ("", "", "", false)
def tyJx145de : Nat → FieldType := fun k => match k with
  | _ => .int
abbrev wsJx145de0 : List Cond := u_ws RJx145de TJx145de 0
theorem nmJx145de : ∀ a, a < 0 → ∀ b, b < 0 → a ≠ b → (TJx145de a).2.1 ≠ (TJx145de b).2.1 := by decide +kernel
theorem tyJx145de_ok : ∀ k, k < 0 → parseFieldDescriptor (TJx145de k).2.2.1 = some (tyJx145de k) := by decide +kernel
def RJ9 : String := "java/lang/Math"
def TJ9 : u_T := fun k => match k with
  | _ => ("", "", "", false)
def tyJ9 : Nat → FieldType := fun k => match k with
  | _ => .int
abbrev wsJ90 : List Cond := u_ws RJ9 TJ9 0
theorem nmJ9 : ∀ a, a < 0 → ∀ b, b < 0 → a ≠ b → (TJ9 a).2.1 ≠ (TJ9 b).2.1 := by decide +kernel
theorem tyJ9_ok : ∀ k, k < 0 → parseFieldDescriptor (TJ9 k).2.2.1 = some (tyJ9 k) := by decide +kernel
abbrev cJ9_abs_0f7a4 : ByteArray := prog_11_method_59_code
def yJ9_abs_0f7a4 : MethodName := ⟨RJ9, "abs", "(I)I"⟩
abbrev cJ9_min_7cf53 : ByteArray := prog_11_method_69_code
def yJ9_min_7cf53 : MethodName := ⟨RJ9, "min", "(II)I"⟩
def RJ0 : String := "java/lang/String"
def TJ0 : u_T := fun k => match k with
  | _ => ("", "", "", false)
def tyJ0 : Nat → FieldType := fun k => match k with
  | _ => .int
abbrev wsJ00 : List Cond := u_ws RJ0 TJ0 0
theorem nmJ0 : ∀ a, a < 0 → ∀ b, b < 0 → a ≠ b → (TJ0 a).2.1 ≠ (TJ0 b).2.1 := by decide +kernel
theorem tyJ0_ok : ∀ k, k < 0 → parseFieldDescriptor (TJ0 k).2.2.1 = some (tyJ0 k) := by decide +kernel
def RJ10 : String := "java/lang/System"
def TJ10 : u_T := fun k => match k with
  | _ => ("", "", "", false)
def tyJ10 : Nat → FieldType := fun k => match k with
  | _ => .int
abbrev wsJ100 : List Cond := u_ws RJ10 TJ10 0
theorem nmJ10 : ∀ a, a < 0 → ∀ b, b < 0 → a ≠ b → (TJ10 a).2.1 ≠ (TJ10 b).2.1 := by decide +kernel
theorem tyJ10_ok : ∀ k, k < 0 → parseFieldDescriptor (TJ10 k).2.2.1 = some (tyJ10 k) := by decide +kernel
def RJ7 : String := "java/util/Arrays"
def TJ7 : u_T := fun k => match k with
  | _ => ("", "", "", false)
def tyJ7 : Nat → FieldType := fun k => match k with
  | _ => .int
abbrev wsJ70 : List Cond := u_ws RJ7 TJ7 0
theorem nmJ7 : ∀ a, a < 0 → ∀ b, b < 0 → a ≠ b → (TJ7 a).2.1 ≠ (TJ7 b).2.1 := by decide +kernel
theorem tyJ7_ok : ∀ k, k < 0 → parseFieldDescriptor (TJ7 k).2.2.1 = some (tyJ7 k) := by decide +kernel
abbrev cJ7_fill_53178 : ByteArray := prog_16_method_103_code
def yJ7_fill_53178 : MethodName := ⟨RJ7, "fill", "([II)V"⟩
def RL : String := "PaintedDieLaw"
abbrev cL_newBoard : ByteArray := method_3_code
def yL_newBoard : MethodName := ⟨RL, "newBoard", "(LPaintedDie;II[J)I"⟩
abbrev cL_turnWall : ByteArray := method_4_code
def yL_turnWall : MethodName := ⟨RL, "turnWall", "(LPaintedDie;II[J)I"⟩
abbrev cL_setColour : ByteArray := method_5_code
def yL_setColour : MethodName := ⟨RL, "setColour", "(LPaintedDie;II[J)I"⟩
abbrev cL_addPaint : ByteArray := method_6_code
def yL_addPaint : MethodName := ⟨RL, "addPaint", "(LPaintedDie;II[J)I"⟩
abbrev cL_put : ByteArray := method_7_code
def yL_put : MethodName := ⟨RL, "put", "(LPaintedDie;II[J)I"⟩
abbrev cL_roll : ByteArray := method_8_code
def yL_roll : MethodName := ⟨RL, "roll", "(LPaintedDie;I[J)I"⟩
abbrev cL_rollOn : ByteArray := method_9_code
def yL_rollOn : MethodName := ⟨RL, "rollOn", "(LPaintedDie;II[J)I"⟩
abbrev cL_faceTo : ByteArray := method_10_code
def yL_faceTo : MethodName := ⟨RL, "faceTo", "(LPaintedDie;I[J)I"⟩
abbrev cL_colourOf : ByteArray := method_11_code
def yL_colourOf : MethodName := ⟨RL, "colourOf", "(LPaintedDie;I[J)I"⟩
abbrev cL_paintOf : ByteArray := method_12_code
def yL_paintOf : MethodName := ⟨RL, "paintOf", "(LPaintedDie;I[J)I"⟩
abbrev cL_isWall : ByteArray := method_13_code
def yL_isWall : MethodName := ⟨RL, "isWall", "(LPaintedDie;II[J)I"⟩
abbrev cL_printAt : ByteArray := method_14_code
def yL_printAt : MethodName := ⟨RL, "printAt", "(LPaintedDie;II[J)I"⟩
abbrev cL_canRoll : ByteArray := method_15_code
def yL_canRoll : MethodName := ⟨RL, "canRoll", "(LPaintedDie;I[J)I"⟩
abbrev cL_cellsWith : ByteArray := method_16_code
def yL_cellsWith : MethodName := ⟨RL, "cellsWith", "(LPaintedDie;I[J)I"⟩
abbrev cL_fewestRolls : ByteArray := method_17_code
def yL_fewestRolls : MethodName := ⟨RL, "fewestRolls", "(LPaintedDie;II[J)I"⟩
abbrev cL_fewestRollsWithTop : ByteArray := method_18_code
def yL_fewestRollsWithTop : MethodName := ⟨RL, "fewestRollsWithTop", "(LPaintedDie;III[J)I"⟩
abbrev cL_firstRoll : ByteArray := method_19_code
def yL_firstRoll : MethodName := ⟨RL, "firstRoll", "(LPaintedDie;III[J)I"⟩
abbrev cL_topsAt : ByteArray := method_20_code
def yL_topsAt : MethodName := ⟨RL, "topsAt", "(LPaintedDie;II[J)I"⟩
abbrev cL_cellsBehind : ByteArray := method_21_code
def yL_cellsBehind : MethodName := ⟨RL, "cellsBehind", "(LPaintedDie;I[J)I"⟩
abbrev cL_bestPut : ByteArray := method_22_code
def yL_bestPut : MethodName := ⟨RL, "bestPut", "(LPaintedDie;I[J)I"⟩
abbrev cL_law : ByteArray := code
def yL_law : MethodName := ⟨RL, "law", "([I)Z"⟩
def wsX0_init : List Cond := .code yX0_init cX0_init 1 none :: ([.methodLink RX0 3 objectInit, .instanceMethod objectInit, .code objectInit ⟨#[0xb1]⟩ 1 none, .arrayClass .boolean, .fieldLink RX0 9 "PaintedDie$Board" "isWalled" "[Z", .arrayClass .int, .fieldLink RX0 15 "PaintedDie$Board" "printed" "[I"] ++ wsX00)
def wsX0_cellAt : List Cond := .code yX0_cellAt cX0_cellAt 2 (some .int) :: ([])
def wsX0_columnOf : List Cond := .code yX0_columnOf cX0_columnOf 1 (some .int) :: ([])
def wsX0_rowOf : List Cond := .code yX0_rowOf cX0_rowOf 1 (some .int) :: ([])
def wsX0_layOut : List Cond := .code yX0_layOut cX0_layOut 4 none :: ([.fieldLink RX0 19 "PaintedDie$Board" "width" "I", .fieldLink RX0 23 "PaintedDie$Board" "height" "I", .fieldLink RX0 9 "PaintedDie$Board" "isWalled" "[Z", .fieldLink RX0 15 "PaintedDie$Board" "printed" "[I"] ++ wsX00)
def wsX0_has : List Cond := .code yX0_has cX0_has 3 (some .boolean) :: ([.fieldLink RX0 19 "PaintedDie$Board" "width" "I", .fieldLink RX0 23 "PaintedDie$Board" "height" "I"] ++ wsX00)
def wsX0_isFree : List Cond := .code yX0_isFree cX0_isFree 3 (some .boolean) :: ([.fieldLink RX0 9 "PaintedDie$Board" "isWalled" "[Z", .methodLink RX0 26 yX0_has, .instanceMethod yX0_has, .selects RX0 yX0_has yX0_has, .initialized RX0, .code yX0_has cX0_has 3 (some .boolean), .fieldLink RX0 19 "PaintedDie$Board" "width" "I", .fieldLink RX0 23 "PaintedDie$Board" "height" "I", .methodLink RX0 30 yX0_cellAt, .static yX0_cellAt, .code yX0_cellAt cX0_cellAt 2 (some .int)] ++ wsX00)
def wsX0_isFreeCell : List Cond := .code yX0_isFreeCell cX0_isFreeCell 2 (some .boolean) :: ([.methodLink RX0 34 yX0_columnOf, .static yX0_columnOf, .initialized RX0, .code yX0_columnOf cX0_columnOf 1 (some .int), .methodLink RX0 38 yX0_rowOf, .static yX0_rowOf, .code yX0_rowOf cX0_rowOf 1 (some .int), .methodLink RX0 41 yX0_isFree, .instanceMethod yX0_isFree, .selects RX0 yX0_isFree yX0_isFree, .code yX0_isFree cX0_isFree 3 (some .boolean), .fieldLink RX0 9 "PaintedDie$Board" "isWalled" "[Z", .methodLink RX0 26 yX0_has, .instanceMethod yX0_has, .selects RX0 yX0_has yX0_has, .code yX0_has cX0_has 3 (some .boolean), .fieldLink RX0 19 "PaintedDie$Board" "width" "I", .fieldLink RX0 23 "PaintedDie$Board" "height" "I", .methodLink RX0 30 yX0_cellAt, .static yX0_cellAt, .code yX0_cellAt cX0_cellAt 2 (some .int)] ++ wsX00)
def wsX0_printOn : List Cond := .code yX0_printOn cX0_printOn 3 (some .int) :: ([.fieldLink RX0 15 "PaintedDie$Board" "printed" "[I", .methodLink RX0 26 yX0_has, .instanceMethod yX0_has, .selects RX0 yX0_has yX0_has, .initialized RX0, .code yX0_has cX0_has 3 (some .boolean), .fieldLink RX0 19 "PaintedDie$Board" "width" "I", .fieldLink RX0 23 "PaintedDie$Board" "height" "I", .methodLink RX0 30 yX0_cellAt, .static yX0_cellAt, .code yX0_cellAt cX0_cellAt 2 (some .int)] ++ wsX00)
def wsX0_printOnto : List Cond := .code yX0_printOnto cX0_printOnto 3 none :: ([.fieldLink RX0 15 "PaintedDie$Board" "printed" "[I"] ++ wsX00)
def wsX0_turnOver : List Cond := .code yX0_turnOver cX0_turnOver 2 (some .boolean) :: ([.fieldLink RX0 9 "PaintedDie$Board" "isWalled" "[Z"] ++ wsX00)
def wsX0_nextCell : List Cond := .code yX0_nextCell cX0_nextCell 5 (some .int) :: ([.methodLink RX0 34 yX0_columnOf, .static yX0_columnOf, .initialized RX0, .code yX0_columnOf cX0_columnOf 1 (some .int), .methodLink RX0 38 yX0_rowOf, .static yX0_rowOf, .code yX0_rowOf cX0_rowOf 1 (some .int), .methodLink RX0 41 yX0_isFree, .instanceMethod yX0_isFree, .selects RX0 yX0_isFree yX0_isFree, .code yX0_isFree cX0_isFree 3 (some .boolean), .fieldLink RX0 9 "PaintedDie$Board" "isWalled" "[Z", .methodLink RX0 26 yX0_has, .instanceMethod yX0_has, .selects RX0 yX0_has yX0_has, .code yX0_has cX0_has 3 (some .boolean), .fieldLink RX0 19 "PaintedDie$Board" "width" "I", .fieldLink RX0 23 "PaintedDie$Board" "height" "I", .methodLink RX0 30 yX0_cellAt, .static yX0_cellAt, .code yX0_cellAt cX0_cellAt 2 (some .int)] ++ wsX00)
def wsX0_countWalls : List Cond := .code yX0_countWalls cX0_countWalls 3 (some .int) :: ([.fieldLink RX0 9 "PaintedDie$Board" "isWalled" "[Z"] ++ wsX00)
def wsX0_countPrints : List Cond := .code yX0_countPrints cX0_countPrints 5 (some .int) :: ([.fieldLink RX0 23 "PaintedDie$Board" "height" "I", .fieldLink RX0 19 "PaintedDie$Board" "width" "I", .methodLink RX0 44 yX0_printOn, .instanceMethod yX0_printOn, .selects RX0 yX0_printOn yX0_printOn, .initialized RX0, .code yX0_printOn cX0_printOn 3 (some .int), .fieldLink RX0 15 "PaintedDie$Board" "printed" "[I", .methodLink RX0 26 yX0_has, .instanceMethod yX0_has, .selects RX0 yX0_has yX0_has, .code yX0_has cX0_has 3 (some .boolean), .methodLink RX0 30 yX0_cellAt, .static yX0_cellAt, .code yX0_cellAt cX0_cellAt 2 (some .int)] ++ wsX00)
def wsX1_init : List Cond := .code yX1_init cX1_init 1 none :: ([.methodLink RX1 3 objectInit, .instanceMethod objectInit, .code objectInit ⟨#[0xb1]⟩ 1 none, .arrayClass .int, .fieldLink RX1 11 "PaintedDie$Search" "fewest" "[I", .fieldLink RX1 17 "PaintedDie$Search" "queue" "[I"] ++ wsX10)
def wsJ7_fill_53178 : List Cond := .code yJ7_fill_53178 cJ7_fill_53178 4 none :: ([])
def wsX1_forget : List Cond := .code yX1_forget cX1_forget 1 none :: ([.fieldLink RX1 11 "PaintedDie$Search" "fewest" "[I", .fieldLink RX1 26 "PaintedDie$Search" "found" "I", .methodLink RX1 20 yJ7_fill_53178, .static yJ7_fill_53178, .initialized RJ7, .code yJ7_fill_53178 cJ7_fill_53178 4 none] ++ wsX10)
def wsX1_reach : List Cond := .code yX1_reach cX1_reach 5 none :: ([.fieldLink RX1 11 "PaintedDie$Search" "fewest" "[I", .fieldLink RX1 26 "PaintedDie$Search" "found" "I", .fieldLink RX1 17 "PaintedDie$Search" "queue" "[I"] ++ wsX10)
def wsX1_rollsAt : List Cond := .code yX1_rollsAt cX1_rollsAt 4 (some .int) :: ([.fieldLink RX1 11 "PaintedDie$Search" "fewest" "[I"] ++ wsX10)
def wsX2_topOf : List Cond := .code yX2_topOf cX2_topOf 1 (some .int) :: ([])
def wsX2_northOf : List Cond := .code yX2_northOf cX2_northOf 1 (some .int) :: ([])
def wsX2_with : List Cond := .code yX2_with cX2_with 2 (some .int) :: ([])
def wsX2_axisOf : List Cond := .code yX2_axisOf cX2_axisOf 1 (some .int) :: ([])
def wsX2_eastOf : List Cond := .code yX2_eastOf cX2_eastOf 5 (some .int) :: ([.methodLink RX2 9 yX2_topOf, .static yX2_topOf, .initialized RX2, .code yX2_topOf cX2_topOf 1 (some .int), .methodLink RX2 15 yX2_northOf, .static yX2_northOf, .code yX2_northOf cX2_northOf 1 (some .int), .methodLink RX2 18 yX2_axisOf, .static yX2_axisOf, .code yX2_axisOf cX2_axisOf 1 (some .int)])
def wsX2_behindRoll : List Cond := .code yX2_behindRoll cX2_behindRoll 4 (some .int) :: ([.methodLink RX2 9 yX2_topOf, .static yX2_topOf, .initialized RX2, .code yX2_topOf cX2_topOf 1 (some .int), .methodLink RX2 15 yX2_northOf, .static yX2_northOf, .code yX2_northOf cX2_northOf 1 (some .int), .methodLink RX2 24 yX2_with, .static yX2_with, .code yX2_with cX2_with 2 (some .int), .methodLink RX2 21 yX2_eastOf, .static yX2_eastOf, .code yX2_eastOf cX2_eastOf 5 (some .int), .methodLink RX2 18 yX2_axisOf, .static yX2_axisOf, .code yX2_axisOf cX2_axisOf 1 (some .int)])
def wsX1_spread_r1 : List Cond := [Cond.fieldLink RX1 26 "PaintedDie$Search" "found" "I", Cond.fieldLink RX1 17 "PaintedDie$Search" "queue" "[I", Cond.methodLink RX1 30 yX1_rollsAt, Cond.instanceMethod yX1_rollsAt, Cond.selects RX1 yX1_rollsAt yX1_rollsAt, Cond.initialized RX1, Cond.code yX1_rollsAt cX1_rollsAt 4 (some .int), Cond.fieldLink RX1 11 "PaintedDie$Search" "fewest" "[I", Cond.instanceMethod yX0_nextCell, Cond.initialized RX0, Cond.selects RX0 yX0_nextCell yX0_nextCell, Cond.code yX0_nextCell cX0_nextCell 5 (some .int), Cond.methodLink RX0 34 yX0_columnOf, Cond.static yX0_columnOf, Cond.code yX0_columnOf cX0_columnOf 1 (some .int), Cond.methodLink RX0 38 yX0_rowOf, Cond.static yX0_rowOf, Cond.code yX0_rowOf cX0_rowOf 1 (some .int), Cond.methodLink RX0 41 yX0_isFree, Cond.instanceMethod yX0_isFree, Cond.selects RX0 yX0_isFree yX0_isFree, Cond.code yX0_isFree cX0_isFree 3 (some .boolean), Cond.fieldLink RX0 9 "PaintedDie$Board" "isWalled" "[Z", Cond.methodLink RX0 26 yX0_has]
def wsX1_spread_r2 : List Cond := [Cond.instanceMethod yX0_has, Cond.selects RX0 yX0_has yX0_has, Cond.code yX0_has cX0_has 3 (some .boolean), Cond.fieldLink RX0 19 "PaintedDie$Board" "width" "I", Cond.fieldLink RX0 23 "PaintedDie$Board" "height" "I", Cond.methodLink RX0 30 yX0_cellAt, Cond.static yX0_cellAt, Cond.code yX0_cellAt cX0_cellAt 2 (some .int), Cond.static yX2_behindRoll, Cond.initialized RX2, Cond.code yX2_behindRoll cX2_behindRoll 4 (some .int), Cond.methodLink RX2 9 yX2_topOf, Cond.static yX2_topOf, Cond.code yX2_topOf cX2_topOf 1 (some .int), Cond.methodLink RX2 15 yX2_northOf, Cond.static yX2_northOf, Cond.code yX2_northOf cX2_northOf 1 (some .int), Cond.methodLink RX2 24 yX2_with, Cond.static yX2_with, Cond.code yX2_with cX2_with 2 (some .int), Cond.methodLink RX2 21 yX2_eastOf, Cond.static yX2_eastOf, Cond.code yX2_eastOf cX2_eastOf 5 (some .int), Cond.methodLink RX2 18 yX2_axisOf]
def wsX1_spread_r3 : List Cond := [Cond.static yX2_axisOf, Cond.code yX2_axisOf cX2_axisOf 1 (some .int), Cond.methodLink RX1 42 yX1_reach, Cond.instanceMethod yX1_reach, Cond.selects RX1 yX1_reach yX1_reach, Cond.code yX1_reach cX1_reach 5 none]
def wsX1_spread : List Cond := .code yX1_spread cX1_spread 8 none :: ((wsX1_spread_r1 ++ (wsX1_spread_r2 ++ wsX1_spread_r3)) ++ wsX10 ++ wsX00)
def wsX1_fewerOf : List Cond := .code yX1_fewerOf cX1_fewerOf 2 (some .int) :: ([.methodLink RX1 55 Lib.Math.min.name, .static Lib.Math.min.name, .initialized "java/lang/Math", .code Lib.Math.min.name Lib.Math.min.code 2 (some .int)])
def wsX1_fewestWithTop : List Cond := .code yX1_fewestWithTop cX1_fewestWithTop 5 (some .int) :: ([.static yX2_with, .initialized RX2, .code yX2_with cX2_with 2 (some .int), .methodLink RX1 30 yX1_rollsAt, .instanceMethod yX1_rollsAt, .selects RX1 yX1_rollsAt yX1_rollsAt, .initialized RX1, .code yX1_rollsAt cX1_rollsAt 4 (some .int), .fieldLink RX1 11 "PaintedDie$Search" "fewest" "[I", .methodLink RX1 49 yX1_fewerOf, .static yX1_fewerOf, .code yX1_fewerOf cX1_fewerOf 2 (some .int), .methodLink RX1 55 Lib.Math.min.name, .static Lib.Math.min.name, .initialized "java/lang/Math", .code Lib.Math.min.name Lib.Math.min.code 2 (some .int)] ++ wsX10)
def wsX1_fewestTo : List Cond := .code yX1_fewestTo cX1_fewestTo 4 (some .int) :: ([.methodLink RX1 52 yX1_fewestWithTop, .instanceMethod yX1_fewestWithTop, .selects RX1 yX1_fewestWithTop yX1_fewestWithTop, .initialized RX1, .code yX1_fewestWithTop cX1_fewestWithTop 5 (some .int), .static yX2_with, .initialized RX2, .code yX2_with cX2_with 2 (some .int), .methodLink RX1 30 yX1_rollsAt, .instanceMethod yX1_rollsAt, .selects RX1 yX1_rollsAt yX1_rollsAt, .code yX1_rollsAt cX1_rollsAt 4 (some .int), .fieldLink RX1 11 "PaintedDie$Search" "fewest" "[I", .methodLink RX1 49 yX1_fewerOf, .static yX1_fewerOf, .code yX1_fewerOf cX1_fewerOf 2 (some .int), .methodLink RX1 55 Lib.Math.min.name, .static Lib.Math.min.name, .initialized "java/lang/Math", .code Lib.Math.min.name Lib.Math.min.code 2 (some .int)] ++ wsX10)
def wsX1_countTops : List Cond := .code yX1_countTops cX1_countTops 4 (some .int) :: ([.methodLink RX1 52 yX1_fewestWithTop, .instanceMethod yX1_fewestWithTop, .selects RX1 yX1_fewestWithTop yX1_fewestWithTop, .initialized RX1, .code yX1_fewestWithTop cX1_fewestWithTop 5 (some .int), .static yX2_with, .initialized RX2, .code yX2_with cX2_with 2 (some .int), .methodLink RX1 30 yX1_rollsAt, .instanceMethod yX1_rollsAt, .selects RX1 yX1_rollsAt yX1_rollsAt, .code yX1_rollsAt cX1_rollsAt 4 (some .int), .fieldLink RX1 11 "PaintedDie$Search" "fewest" "[I", .methodLink RX1 49 yX1_fewerOf, .static yX1_fewerOf, .code yX1_fewerOf cX1_fewerOf 2 (some .int), .methodLink RX1 55 Lib.Math.min.name, .static Lib.Math.min.name, .initialized "java/lang/Math", .code Lib.Math.min.name Lib.Math.min.code 2 (some .int)] ++ wsX10)
def wsX2_faceOn : List Cond := .code yX2_faceOn cX2_faceOn 2 (some .int) :: ([.methodLink RX2 15 yX2_northOf, .static yX2_northOf, .initialized RX2, .code yX2_northOf cX2_northOf 1 (some .int), .methodLink RX2 21 yX2_eastOf, .static yX2_eastOf, .code yX2_eastOf cX2_eastOf 5 (some .int), .methodLink RX2 9 yX2_topOf, .static yX2_topOf, .code yX2_topOf cX2_topOf 1 (some .int), .methodLink RX2 18 yX2_axisOf, .static yX2_axisOf, .code yX2_axisOf cX2_axisOf 1 (some .int)])
def wsX3_startOn : List Cond := .code yX3_startOn cX3_startOn 3 none :: ([.fieldLink RX3 12 "PaintedDie" "board" "LPaintedDie$Board;", .fieldLink RX3 52 "PaintedDie" "cell" "I", .fieldLink RX3 96 "PaintedDie" "turn" "I", .fieldLink RX3 142 "PaintedDie" "rollsMade" "I", .fieldLink RX3 145 "PaintedDie" "printsMade" "I", .instanceMethod yX0_layOut, .initialized RX0, .selects RX0 yX0_layOut yX0_layOut, .code yX0_layOut cX0_layOut 4 none, .fieldLink RX0 19 "PaintedDie$Board" "width" "I", .fieldLink RX0 23 "PaintedDie$Board" "height" "I", .fieldLink RX0 9 "PaintedDie$Board" "isWalled" "[Z", .fieldLink RX0 15 "PaintedDie$Board" "printed" "[I"] ++ wsX30 ++ wsX00)
def wsX3_init_r1 : List Cond := [Cond.methodLink RX3 3 objectInit, Cond.instanceMethod objectInit, Cond.code objectInit ⟨#[0xb1]⟩ 1 none, Cond.classLink RX3 9 RX0, Cond.instantiable RX0 4, Cond.initialized RX0, Cond.fieldLink RX3 12 "PaintedDie" "board" "LPaintedDie$Board;", Cond.classLink RX3 16 RX1, Cond.instantiable RX1 3, Cond.initialized RX1, Cond.fieldLink RX3 19 "PaintedDie" "search" "LPaintedDie$Search;", Cond.arrayClass .int, Cond.fieldLink RX3 23 "PaintedDie" "colours" "[I", Cond.fieldLink RX3 27 "PaintedDie" "paints" "[I", Cond.instanceMethod yX0_init, Cond.code yX0_init cX0_init 1 none, Cond.methodLink RX0 3 objectInit, Cond.arrayClass .boolean, Cond.fieldLink RX0 9 "PaintedDie$Board" "isWalled" "[Z", Cond.fieldLink RX0 15 "PaintedDie$Board" "printed" "[I", Cond.instanceMethod yX1_init, Cond.code yX1_init cX1_init 1 none, Cond.methodLink RX1 3 objectInit, Cond.fieldLink RX1 11 "PaintedDie$Search" "fewest" "[I"]
def wsX3_init_r2 : List Cond := [Cond.fieldLink RX1 17 "PaintedDie$Search" "queue" "[I", Cond.methodLink RX3 30 yX3_startOn, Cond.instanceMethod yX3_startOn, Cond.selects RX3 yX3_startOn yX3_startOn, Cond.initialized RX3, Cond.code yX3_startOn cX3_startOn 3 none, Cond.fieldLink RX3 52 "PaintedDie" "cell" "I", Cond.fieldLink RX3 96 "PaintedDie" "turn" "I", Cond.fieldLink RX3 142 "PaintedDie" "rollsMade" "I", Cond.fieldLink RX3 145 "PaintedDie" "printsMade" "I", Cond.instanceMethod yX0_layOut, Cond.selects RX0 yX0_layOut yX0_layOut, Cond.code yX0_layOut cX0_layOut 4 none, Cond.fieldLink RX0 19 "PaintedDie$Board" "width" "I", Cond.fieldLink RX0 23 "PaintedDie$Board" "height" "I"]
def wsX3_init : List Cond := .code yX3_init cX3_init 2 none :: ((wsX3_init_r1 ++ wsX3_init_r2) ++ wsX00 ++ wsX30 ++ wsX10)
def wsX3_isSide : List Cond := .code yX3_isSide cX3_isSide 1 (some .boolean) :: ([])
def wsX3_newBoard : List Cond := .code yX3_newBoard cX3_newBoard 3 (some .int) :: ([.classLink RX3 38 "java/lang/IllegalArgumentException", .initialized "java/lang/IllegalArgumentException", .methodLink RX3 34 yX3_isSide, .static yX3_isSide, .initialized RX3, .code yX3_isSide cX3_isSide 1 (some .boolean), .methodLink RX3 30 yX3_startOn, .instanceMethod yX3_startOn, .selects RX3 yX3_startOn yX3_startOn, .code yX3_startOn cX3_startOn 3 none, .fieldLink RX3 12 "PaintedDie" "board" "LPaintedDie$Board;", .fieldLink RX3 52 "PaintedDie" "cell" "I", .fieldLink RX3 96 "PaintedDie" "turn" "I", .fieldLink RX3 142 "PaintedDie" "rollsMade" "I", .fieldLink RX3 145 "PaintedDie" "printsMade" "I", .instanceMethod yX0_layOut, .initialized RX0, .selects RX0 yX0_layOut yX0_layOut, .code yX0_layOut cX0_layOut 4 none, .fieldLink RX0 19 "PaintedDie$Board" "width" "I", .fieldLink RX0 23 "PaintedDie$Board" "height" "I", .fieldLink RX0 9 "PaintedDie$Board" "isWalled" "[Z", .fieldLink RX0 15 "PaintedDie$Board" "printed" "[I"] ++ wsX30 ++ wsX00 ++ (vx_atS RX3 42 "java/lang/IllegalArgumentException" ["java/lang/RuntimeException", "java/lang/Exception"]).filter goodWord)
def wsX3_checkCell : List Cond := .code yX3_checkCell cX3_checkCell 3 none :: ([.classLink RX3 148 "java/lang/IndexOutOfBoundsException", .initialized "java/lang/IndexOutOfBoundsException", .fieldLink RX3 12 "PaintedDie" "board" "LPaintedDie$Board;", .instanceMethod yX0_has, .initialized RX0, .selects RX0 yX0_has yX0_has, .code yX0_has cX0_has 3 (some .boolean), .fieldLink RX0 19 "PaintedDie$Board" "width" "I", .fieldLink RX0 23 "PaintedDie$Board" "height" "I"] ++ wsX30 ++ wsX00 ++ (vx_atS RX3 152 "java/lang/IndexOutOfBoundsException" ["java/lang/RuntimeException", "java/lang/Exception"]).filter goodWord)
def wsX3_turnWall : List Cond := .code yX3_turnWall cX3_turnWall 4 (some .boolean) :: ([.classLink RX3 56 "java/lang/IllegalStateException", .initialized "java/lang/IllegalStateException", .fieldLink RX3 52 "PaintedDie" "cell" "I", .fieldLink RX3 12 "PaintedDie" "board" "LPaintedDie$Board;", .methodLink RX3 45 yX3_checkCell, .instanceMethod yX3_checkCell, .selects RX3 yX3_checkCell yX3_checkCell, .initialized RX3, .code yX3_checkCell cX3_checkCell 3 none, .classLink RX3 148 "java/lang/IndexOutOfBoundsException", .initialized "java/lang/IndexOutOfBoundsException", .instanceMethod yX0_has, .initialized RX0, .selects RX0 yX0_has yX0_has, .code yX0_has cX0_has 3 (some .boolean), .fieldLink RX0 19 "PaintedDie$Board" "width" "I", .fieldLink RX0 23 "PaintedDie$Board" "height" "I", .static yX0_cellAt, .code yX0_cellAt cX0_cellAt 2 (some .int), .instanceMethod yX0_turnOver, .selects RX0 yX0_turnOver yX0_turnOver, .code yX0_turnOver cX0_turnOver 2 (some .boolean), .fieldLink RX0 9 "PaintedDie$Board" "isWalled" "[Z"] ++ wsX30 ++ wsX00 ++ (vx_atS RX3 60 "java/lang/IllegalStateException" ["java/lang/RuntimeException", "java/lang/Exception"]).filter goodWord ++ (vx_atS RX3 152 "java/lang/IndexOutOfBoundsException" ["java/lang/RuntimeException", "java/lang/Exception"]).filter goodWord)
def wsX3_isFace : List Cond := .code yX3_isFace cX3_isFace 1 (some .boolean) :: ([])
def wsX3_checkFace : List Cond := .code yX3_checkFace cX3_checkFace 1 none :: ([.classLink RX3 148 "java/lang/IndexOutOfBoundsException", .initialized "java/lang/IndexOutOfBoundsException", .methodLink RX3 219 yX3_isFace, .static yX3_isFace, .initialized RX3, .code yX3_isFace cX3_isFace 1 (some .boolean)] ++ (vx_atS RX3 152 "java/lang/IndexOutOfBoundsException" ["java/lang/RuntimeException", "java/lang/Exception"]).filter goodWord)
def wsX3_setColour : List Cond := .code yX3_setColour cX3_setColour 4 (some .int) :: ([.classLink RX3 38 "java/lang/IllegalArgumentException", .initialized "java/lang/IllegalArgumentException", .fieldLink RX3 23 "PaintedDie" "colours" "[I", .methodLink RX3 64 yX3_checkFace, .static yX3_checkFace, .initialized RX3, .code yX3_checkFace cX3_checkFace 1 none, .classLink RX3 148 "java/lang/IndexOutOfBoundsException", .initialized "java/lang/IndexOutOfBoundsException", .methodLink RX3 219 yX3_isFace, .static yX3_isFace, .code yX3_isFace cX3_isFace 1 (some .boolean)] ++ wsX30 ++ (vx_atS RX3 42 "java/lang/IllegalArgumentException" ["java/lang/RuntimeException", "java/lang/Exception"]).filter goodWord ++ (vx_atS RX3 152 "java/lang/IndexOutOfBoundsException" ["java/lang/RuntimeException", "java/lang/Exception"]).filter goodWord)
def wsX3_addPaint : List Cond := .code yX3_addPaint cX3_addPaint 3 (some .int) :: ([.classLink RX3 38 "java/lang/IllegalArgumentException", .initialized "java/lang/IllegalArgumentException", .fieldLink RX3 27 "PaintedDie" "paints" "[I", .methodLink RX3 72 Lib.Math.min.name, .static Lib.Math.min.name, .initialized "java/lang/Math", .code Lib.Math.min.name Lib.Math.min.code 2 (some .int), .methodLink RX3 64 yX3_checkFace, .static yX3_checkFace, .initialized RX3, .code yX3_checkFace cX3_checkFace 1 none, .classLink RX3 148 "java/lang/IndexOutOfBoundsException", .initialized "java/lang/IndexOutOfBoundsException", .methodLink RX3 219 yX3_isFace, .static yX3_isFace, .code yX3_isFace cX3_isFace 1 (some .boolean)] ++ wsX30 ++ (vx_atS RX3 42 "java/lang/IllegalArgumentException" ["java/lang/RuntimeException", "java/lang/Exception"]).filter goodWord ++ (vx_atS RX3 152 "java/lang/IndexOutOfBoundsException" ["java/lang/RuntimeException", "java/lang/Exception"]).filter goodWord)
def wsX3_column : List Cond := .code yX3_column cX3_column 1 (some .int) :: ([.fieldLink RX3 52 "PaintedDie" "cell" "I", .static yX0_columnOf, .initialized RX0, .code yX0_columnOf cX0_columnOf 1 (some .int)] ++ wsX30)
def wsX3_row : List Cond := .code yX3_row cX3_row 1 (some .int) :: ([.fieldLink RX3 52 "PaintedDie" "cell" "I", .static yX0_rowOf, .initialized RX0, .code yX0_rowOf cX0_rowOf 1 (some .int)] ++ wsX30)
def wsX3_put_r1 : List Cond := [Cond.classLink RX3 56 "java/lang/IllegalStateException", Cond.initialized "java/lang/IllegalStateException", Cond.fieldLink RX3 12 "PaintedDie" "board" "LPaintedDie$Board;", Cond.methodLink RX3 87 Lib.Math.abs.name, Cond.static Lib.Math.abs.name, Cond.initialized "java/lang/Math", Cond.code Lib.Math.abs.name Lib.Math.abs.code 1 (some .int), Cond.fieldLink RX3 52 "PaintedDie" "cell" "I", Cond.fieldLink RX3 96 "PaintedDie" "turn" "I", Cond.methodLink RX3 45 yX3_checkCell, Cond.instanceMethod yX3_checkCell, Cond.selects RX3 yX3_checkCell yX3_checkCell, Cond.initialized RX3, Cond.code yX3_checkCell cX3_checkCell 3 none, Cond.classLink RX3 148 "java/lang/IndexOutOfBoundsException", Cond.initialized "java/lang/IndexOutOfBoundsException", Cond.instanceMethod yX0_has, Cond.initialized RX0, Cond.selects RX0 yX0_has yX0_has, Cond.code yX0_has cX0_has 3 (some .boolean), Cond.fieldLink RX0 19 "PaintedDie$Board" "width" "I", Cond.fieldLink RX0 23 "PaintedDie$Board" "height" "I", Cond.instanceMethod yX0_isFree, Cond.selects RX0 yX0_isFree yX0_isFree]
def wsX3_put_r2 : List Cond := [Cond.code yX0_isFree cX0_isFree 3 (some .boolean), Cond.fieldLink RX0 9 "PaintedDie$Board" "isWalled" "[Z", Cond.methodLink RX0 26 yX0_has, Cond.methodLink RX0 30 yX0_cellAt, Cond.static yX0_cellAt, Cond.code yX0_cellAt cX0_cellAt 2 (some .int), Cond.methodLink RX3 83 yX3_column, Cond.instanceMethod yX3_column, Cond.selects RX3 yX3_column yX3_column, Cond.code yX3_column cX3_column 1 (some .int), Cond.static yX0_columnOf, Cond.code yX0_columnOf cX0_columnOf 1 (some .int), Cond.methodLink RX3 91 yX3_row, Cond.instanceMethod yX3_row, Cond.selects RX3 yX3_row yX3_row, Cond.code yX3_row cX3_row 1 (some .int), Cond.static yX0_rowOf, Cond.code yX0_rowOf cX0_rowOf 1 (some .int)]
def wsX3_put : List Cond := .code yX3_put cX3_put 4 (some .int) :: ((wsX3_put_r1 ++ wsX3_put_r2) ++ wsX30 ++ wsX00 ++ (vx_atS RX3 60 "java/lang/IllegalStateException" ["java/lang/RuntimeException", "java/lang/Exception"]).filter goodWord ++ (vx_atS RX3 152 "java/lang/IndexOutOfBoundsException" ["java/lang/RuntimeException", "java/lang/Exception"]).filter goodWord)
def wsX3_checkDirection : List Cond := .code yX3_checkDirection cX3_checkDirection 1 none :: ([.classLink RX3 148 "java/lang/IndexOutOfBoundsException", .initialized "java/lang/IndexOutOfBoundsException"] ++ (vx_atS RX3 152 "java/lang/IndexOutOfBoundsException" ["java/lang/RuntimeException", "java/lang/Exception"]).filter goodWord)
def wsX3_top : List Cond := .code yX3_top cX3_top 1 (some .int) :: ([.fieldLink RX3 96 "PaintedDie" "turn" "I", .static yX2_topOf, .initialized RX2, .code yX2_topOf cX2_topOf 1 (some .int)] ++ wsX30)
def wsX3_bottom : List Cond := .code yX3_bottom cX3_bottom 1 (some .int) :: ([.methodLink RX3 121 yX3_top, .instanceMethod yX3_top, .selects RX3 yX3_top yX3_top, .initialized RX3, .code yX3_top cX3_top 1 (some .int), .fieldLink RX3 96 "PaintedDie" "turn" "I", .static yX2_topOf, .initialized RX2, .code yX2_topOf cX2_topOf 1 (some .int)] ++ wsX30)
def wsX3_printHere_r1 : List Cond := [Cond.fieldLink RX3 27 "PaintedDie" "paints" "[I", Cond.fieldLink RX3 12 "PaintedDie" "board" "LPaintedDie$Board;", Cond.fieldLink RX3 52 "PaintedDie" "cell" "I", Cond.fieldLink RX3 23 "PaintedDie" "colours" "[I", Cond.fieldLink RX3 145 "PaintedDie" "printsMade" "I", Cond.methodLink RX3 107 yX3_bottom, Cond.instanceMethod yX3_bottom, Cond.selects RX3 yX3_bottom yX3_bottom, Cond.initialized RX3, Cond.code yX3_bottom cX3_bottom 1 (some .int), Cond.methodLink RX3 121 yX3_top, Cond.instanceMethod yX3_top, Cond.selects RX3 yX3_top yX3_top, Cond.code yX3_top cX3_top 1 (some .int), Cond.fieldLink RX3 96 "PaintedDie" "turn" "I", Cond.static yX2_topOf, Cond.initialized RX2, Cond.code yX2_topOf cX2_topOf 1 (some .int), Cond.methodLink RX3 219 yX3_isFace, Cond.static yX3_isFace, Cond.code yX3_isFace cX3_isFace 1 (some .boolean), Cond.instanceMethod yX0_printOnto, Cond.initialized RX0, Cond.selects RX0 yX0_printOnto yX0_printOnto]
def wsX3_printHere_r2 : List Cond := [Cond.code yX0_printOnto cX0_printOnto 3 none, Cond.fieldLink RX0 15 "PaintedDie$Board" "printed" "[I"]
def wsX3_printHere : List Cond := .code yX3_printHere cX3_printHere 2 none :: ((wsX3_printHere_r1 ++ wsX3_printHere_r2) ++ wsX30 ++ wsX00)
def wsX3_rollOnce_r1 : List Cond := [Cond.fieldLink RX3 12 "PaintedDie" "board" "LPaintedDie$Board;", Cond.fieldLink RX3 52 "PaintedDie" "cell" "I", Cond.fieldLink RX3 96 "PaintedDie" "turn" "I", Cond.fieldLink RX3 142 "PaintedDie" "rollsMade" "I", Cond.instanceMethod yX0_nextCell, Cond.initialized RX0, Cond.selects RX0 yX0_nextCell yX0_nextCell, Cond.code yX0_nextCell cX0_nextCell 5 (some .int), Cond.methodLink RX0 34 yX0_columnOf, Cond.static yX0_columnOf, Cond.code yX0_columnOf cX0_columnOf 1 (some .int), Cond.methodLink RX0 38 yX0_rowOf, Cond.static yX0_rowOf, Cond.code yX0_rowOf cX0_rowOf 1 (some .int), Cond.methodLink RX0 41 yX0_isFree, Cond.instanceMethod yX0_isFree, Cond.selects RX0 yX0_isFree yX0_isFree, Cond.code yX0_isFree cX0_isFree 3 (some .boolean), Cond.fieldLink RX0 9 "PaintedDie$Board" "isWalled" "[Z", Cond.methodLink RX0 26 yX0_has, Cond.instanceMethod yX0_has, Cond.selects RX0 yX0_has yX0_has, Cond.code yX0_has cX0_has 3 (some .boolean), Cond.fieldLink RX0 19 "PaintedDie$Board" "width" "I"]
def wsX3_rollOnce_r2 : List Cond := [Cond.fieldLink RX0 23 "PaintedDie$Board" "height" "I", Cond.methodLink RX0 30 yX0_cellAt, Cond.static yX0_cellAt, Cond.code yX0_cellAt cX0_cellAt 2 (some .int), Cond.static yX2_behindRoll, Cond.initialized RX2, Cond.code yX2_behindRoll cX2_behindRoll 4 (some .int), Cond.methodLink RX2 9 yX2_topOf, Cond.static yX2_topOf, Cond.code yX2_topOf cX2_topOf 1 (some .int), Cond.methodLink RX2 15 yX2_northOf, Cond.static yX2_northOf, Cond.code yX2_northOf cX2_northOf 1 (some .int), Cond.methodLink RX2 24 yX2_with, Cond.static yX2_with, Cond.code yX2_with cX2_with 2 (some .int), Cond.methodLink RX2 21 yX2_eastOf, Cond.static yX2_eastOf, Cond.code yX2_eastOf cX2_eastOf 5 (some .int), Cond.methodLink RX2 18 yX2_axisOf, Cond.static yX2_axisOf, Cond.code yX2_axisOf cX2_axisOf 1 (some .int), Cond.methodLink RX3 216 yX3_printHere, Cond.instanceMethod yX3_printHere]
def wsX3_rollOnce_r3 : List Cond := [Cond.selects RX3 yX3_printHere yX3_printHere, Cond.initialized RX3, Cond.code yX3_printHere cX3_printHere 2 none, Cond.fieldLink RX3 27 "PaintedDie" "paints" "[I", Cond.fieldLink RX3 23 "PaintedDie" "colours" "[I", Cond.fieldLink RX3 145 "PaintedDie" "printsMade" "I", Cond.methodLink RX3 107 yX3_bottom, Cond.instanceMethod yX3_bottom, Cond.selects RX3 yX3_bottom yX3_bottom, Cond.code yX3_bottom cX3_bottom 1 (some .int), Cond.methodLink RX3 121 yX3_top, Cond.instanceMethod yX3_top, Cond.selects RX3 yX3_top yX3_top, Cond.code yX3_top cX3_top 1 (some .int), Cond.methodLink RX3 219 yX3_isFace, Cond.static yX3_isFace, Cond.code yX3_isFace cX3_isFace 1 (some .boolean), Cond.instanceMethod yX0_printOnto, Cond.selects RX0 yX0_printOnto yX0_printOnto, Cond.code yX0_printOnto cX0_printOnto 3 none, Cond.fieldLink RX0 15 "PaintedDie$Board" "printed" "[I"]
def wsX3_rollOnce : List Cond := .code yX3_rollOnce cX3_rollOnce 3 (some .boolean) :: ((wsX3_rollOnce_r1 ++ (wsX3_rollOnce_r2 ++ wsX3_rollOnce_r3)) ++ wsX30 ++ wsX00)
def wsX3_roll_r1 : List Cond := [Cond.classLink RX3 56 "java/lang/IllegalStateException", Cond.initialized "java/lang/IllegalStateException", Cond.methodLink RX3 99 yX3_checkDirection, Cond.static yX3_checkDirection, Cond.initialized RX3, Cond.code yX3_checkDirection cX3_checkDirection 1 none, Cond.classLink RX3 148 "java/lang/IndexOutOfBoundsException", Cond.initialized "java/lang/IndexOutOfBoundsException", Cond.methodLink RX3 102 yX3_rollOnce, Cond.instanceMethod yX3_rollOnce, Cond.selects RX3 yX3_rollOnce yX3_rollOnce, Cond.code yX3_rollOnce cX3_rollOnce 3 (some .boolean), Cond.fieldLink RX3 12 "PaintedDie" "board" "LPaintedDie$Board;", Cond.fieldLink RX3 52 "PaintedDie" "cell" "I", Cond.fieldLink RX3 96 "PaintedDie" "turn" "I", Cond.fieldLink RX3 142 "PaintedDie" "rollsMade" "I", Cond.instanceMethod yX0_nextCell, Cond.initialized RX0, Cond.selects RX0 yX0_nextCell yX0_nextCell, Cond.code yX0_nextCell cX0_nextCell 5 (some .int), Cond.methodLink RX0 34 yX0_columnOf, Cond.static yX0_columnOf, Cond.code yX0_columnOf cX0_columnOf 1 (some .int), Cond.methodLink RX0 38 yX0_rowOf]
def wsX3_roll_r2 : List Cond := [Cond.static yX0_rowOf, Cond.code yX0_rowOf cX0_rowOf 1 (some .int), Cond.methodLink RX0 41 yX0_isFree, Cond.instanceMethod yX0_isFree, Cond.selects RX0 yX0_isFree yX0_isFree, Cond.code yX0_isFree cX0_isFree 3 (some .boolean), Cond.fieldLink RX0 9 "PaintedDie$Board" "isWalled" "[Z", Cond.methodLink RX0 26 yX0_has, Cond.instanceMethod yX0_has, Cond.selects RX0 yX0_has yX0_has, Cond.code yX0_has cX0_has 3 (some .boolean), Cond.fieldLink RX0 19 "PaintedDie$Board" "width" "I", Cond.fieldLink RX0 23 "PaintedDie$Board" "height" "I", Cond.methodLink RX0 30 yX0_cellAt, Cond.static yX0_cellAt, Cond.code yX0_cellAt cX0_cellAt 2 (some .int), Cond.static yX2_behindRoll, Cond.initialized RX2, Cond.code yX2_behindRoll cX2_behindRoll 4 (some .int), Cond.methodLink RX2 9 yX2_topOf, Cond.static yX2_topOf, Cond.code yX2_topOf cX2_topOf 1 (some .int), Cond.methodLink RX2 15 yX2_northOf, Cond.static yX2_northOf]
def wsX3_roll_r3 : List Cond := [Cond.code yX2_northOf cX2_northOf 1 (some .int), Cond.methodLink RX2 24 yX2_with, Cond.static yX2_with, Cond.code yX2_with cX2_with 2 (some .int), Cond.methodLink RX2 21 yX2_eastOf, Cond.static yX2_eastOf, Cond.code yX2_eastOf cX2_eastOf 5 (some .int), Cond.methodLink RX2 18 yX2_axisOf, Cond.static yX2_axisOf, Cond.code yX2_axisOf cX2_axisOf 1 (some .int), Cond.methodLink RX3 216 yX3_printHere, Cond.instanceMethod yX3_printHere, Cond.selects RX3 yX3_printHere yX3_printHere, Cond.code yX3_printHere cX3_printHere 2 none, Cond.fieldLink RX3 27 "PaintedDie" "paints" "[I", Cond.fieldLink RX3 23 "PaintedDie" "colours" "[I", Cond.fieldLink RX3 145 "PaintedDie" "printsMade" "I", Cond.methodLink RX3 107 yX3_bottom, Cond.instanceMethod yX3_bottom, Cond.selects RX3 yX3_bottom yX3_bottom, Cond.code yX3_bottom cX3_bottom 1 (some .int), Cond.methodLink RX3 121 yX3_top, Cond.instanceMethod yX3_top, Cond.selects RX3 yX3_top yX3_top]
def wsX3_roll_r4 : List Cond := [Cond.code yX3_top cX3_top 1 (some .int), Cond.methodLink RX3 219 yX3_isFace, Cond.static yX3_isFace, Cond.code yX3_isFace cX3_isFace 1 (some .boolean), Cond.instanceMethod yX0_printOnto, Cond.selects RX0 yX0_printOnto yX0_printOnto, Cond.code yX0_printOnto cX0_printOnto 3 none, Cond.fieldLink RX0 15 "PaintedDie$Board" "printed" "[I"]
def wsX3_roll : List Cond := .code yX3_roll cX3_roll 2 (some .int) :: ((wsX3_roll_r1 ++ (wsX3_roll_r2 ++ (wsX3_roll_r3 ++ wsX3_roll_r4))) ++ wsX30 ++ wsX00 ++ (vx_atS RX3 60 "java/lang/IllegalStateException" ["java/lang/RuntimeException", "java/lang/Exception"]).filter goodWord ++ (vx_atS RX3 152 "java/lang/IndexOutOfBoundsException" ["java/lang/RuntimeException", "java/lang/Exception"]).filter goodWord)
def wsX3_rollOn_r1 : List Cond := [Cond.classLink RX3 38 "java/lang/IllegalArgumentException", Cond.initialized "java/lang/IllegalArgumentException", Cond.methodLink RX3 99 yX3_checkDirection, Cond.static yX3_checkDirection, Cond.initialized RX3, Cond.code yX3_checkDirection cX3_checkDirection 1 none, Cond.classLink RX3 148 "java/lang/IndexOutOfBoundsException", Cond.initialized "java/lang/IndexOutOfBoundsException", Cond.methodLink RX3 102 yX3_rollOnce, Cond.instanceMethod yX3_rollOnce, Cond.selects RX3 yX3_rollOnce yX3_rollOnce, Cond.code yX3_rollOnce cX3_rollOnce 3 (some .boolean), Cond.fieldLink RX3 12 "PaintedDie" "board" "LPaintedDie$Board;", Cond.fieldLink RX3 52 "PaintedDie" "cell" "I", Cond.fieldLink RX3 96 "PaintedDie" "turn" "I", Cond.fieldLink RX3 142 "PaintedDie" "rollsMade" "I", Cond.instanceMethod yX0_nextCell, Cond.initialized RX0, Cond.selects RX0 yX0_nextCell yX0_nextCell, Cond.code yX0_nextCell cX0_nextCell 5 (some .int), Cond.methodLink RX0 34 yX0_columnOf, Cond.static yX0_columnOf, Cond.code yX0_columnOf cX0_columnOf 1 (some .int), Cond.methodLink RX0 38 yX0_rowOf]
def wsX3_rollOn_r2 : List Cond := [Cond.static yX0_rowOf, Cond.code yX0_rowOf cX0_rowOf 1 (some .int), Cond.methodLink RX0 41 yX0_isFree, Cond.instanceMethod yX0_isFree, Cond.selects RX0 yX0_isFree yX0_isFree, Cond.code yX0_isFree cX0_isFree 3 (some .boolean), Cond.fieldLink RX0 9 "PaintedDie$Board" "isWalled" "[Z", Cond.methodLink RX0 26 yX0_has, Cond.instanceMethod yX0_has, Cond.selects RX0 yX0_has yX0_has, Cond.code yX0_has cX0_has 3 (some .boolean), Cond.fieldLink RX0 19 "PaintedDie$Board" "width" "I", Cond.fieldLink RX0 23 "PaintedDie$Board" "height" "I", Cond.methodLink RX0 30 yX0_cellAt, Cond.static yX0_cellAt, Cond.code yX0_cellAt cX0_cellAt 2 (some .int), Cond.static yX2_behindRoll, Cond.initialized RX2, Cond.code yX2_behindRoll cX2_behindRoll 4 (some .int), Cond.methodLink RX2 9 yX2_topOf, Cond.static yX2_topOf, Cond.code yX2_topOf cX2_topOf 1 (some .int), Cond.methodLink RX2 15 yX2_northOf, Cond.static yX2_northOf]
def wsX3_rollOn_r3 : List Cond := [Cond.code yX2_northOf cX2_northOf 1 (some .int), Cond.methodLink RX2 24 yX2_with, Cond.static yX2_with, Cond.code yX2_with cX2_with 2 (some .int), Cond.methodLink RX2 21 yX2_eastOf, Cond.static yX2_eastOf, Cond.code yX2_eastOf cX2_eastOf 5 (some .int), Cond.methodLink RX2 18 yX2_axisOf, Cond.static yX2_axisOf, Cond.code yX2_axisOf cX2_axisOf 1 (some .int), Cond.methodLink RX3 216 yX3_printHere, Cond.instanceMethod yX3_printHere, Cond.selects RX3 yX3_printHere yX3_printHere, Cond.code yX3_printHere cX3_printHere 2 none, Cond.fieldLink RX3 27 "PaintedDie" "paints" "[I", Cond.fieldLink RX3 23 "PaintedDie" "colours" "[I", Cond.fieldLink RX3 145 "PaintedDie" "printsMade" "I", Cond.methodLink RX3 107 yX3_bottom, Cond.instanceMethod yX3_bottom, Cond.selects RX3 yX3_bottom yX3_bottom, Cond.code yX3_bottom cX3_bottom 1 (some .int), Cond.methodLink RX3 121 yX3_top, Cond.instanceMethod yX3_top, Cond.selects RX3 yX3_top yX3_top]
def wsX3_rollOn_r4 : List Cond := [Cond.code yX3_top cX3_top 1 (some .int), Cond.methodLink RX3 219 yX3_isFace, Cond.static yX3_isFace, Cond.code yX3_isFace cX3_isFace 1 (some .boolean), Cond.instanceMethod yX0_printOnto, Cond.selects RX0 yX0_printOnto yX0_printOnto, Cond.code yX0_printOnto cX0_printOnto 3 none, Cond.fieldLink RX0 15 "PaintedDie$Board" "printed" "[I"]
def wsX3_rollOn : List Cond := .code yX3_rollOn cX3_rollOn 4 (some .int) :: ((wsX3_rollOn_r1 ++ (wsX3_rollOn_r2 ++ (wsX3_rollOn_r3 ++ wsX3_rollOn_r4))) ++ wsX30 ++ wsX00 ++ (vx_atS RX3 42 "java/lang/IllegalArgumentException" ["java/lang/RuntimeException", "java/lang/Exception"]).filter goodWord ++ (vx_atS RX3 152 "java/lang/IndexOutOfBoundsException" ["java/lang/RuntimeException", "java/lang/Exception"]).filter goodWord)
def wsX3_faceTo : List Cond := .code yX3_faceTo cX3_faceTo 2 (some .int) :: ([.fieldLink RX3 96 "PaintedDie" "turn" "I", .methodLink RX3 99 yX3_checkDirection, .static yX3_checkDirection, .initialized RX3, .code yX3_checkDirection cX3_checkDirection 1 none, .classLink RX3 148 "java/lang/IndexOutOfBoundsException", .initialized "java/lang/IndexOutOfBoundsException", .static yX2_faceOn, .initialized RX2, .code yX2_faceOn cX2_faceOn 2 (some .int), .methodLink RX2 15 yX2_northOf, .static yX2_northOf, .code yX2_northOf cX2_northOf 1 (some .int), .methodLink RX2 21 yX2_eastOf, .static yX2_eastOf, .code yX2_eastOf cX2_eastOf 5 (some .int), .methodLink RX2 9 yX2_topOf, .static yX2_topOf, .code yX2_topOf cX2_topOf 1 (some .int), .methodLink RX2 18 yX2_axisOf, .static yX2_axisOf, .code yX2_axisOf cX2_axisOf 1 (some .int)] ++ wsX30 ++ (vx_atS RX3 152 "java/lang/IndexOutOfBoundsException" ["java/lang/RuntimeException", "java/lang/Exception"]).filter goodWord)
def wsX3_isAsAtFirst : List Cond := .code yX3_isAsAtFirst cX3_isAsAtFirst 1 (some .boolean) :: ([.fieldLink RX3 96 "PaintedDie" "turn" "I"] ++ wsX30)
def wsX3_colourOf : List Cond := .code yX3_colourOf cX3_colourOf 2 (some .int) :: ([.fieldLink RX3 23 "PaintedDie" "colours" "[I", .methodLink RX3 64 yX3_checkFace, .static yX3_checkFace, .initialized RX3, .code yX3_checkFace cX3_checkFace 1 none, .classLink RX3 148 "java/lang/IndexOutOfBoundsException", .initialized "java/lang/IndexOutOfBoundsException", .methodLink RX3 219 yX3_isFace, .static yX3_isFace, .code yX3_isFace cX3_isFace 1 (some .boolean)] ++ wsX30 ++ (vx_atS RX3 152 "java/lang/IndexOutOfBoundsException" ["java/lang/RuntimeException", "java/lang/Exception"]).filter goodWord)
def wsX3_paintOf : List Cond := .code yX3_paintOf cX3_paintOf 2 (some .int) :: ([.fieldLink RX3 27 "PaintedDie" "paints" "[I", .methodLink RX3 64 yX3_checkFace, .static yX3_checkFace, .initialized RX3, .code yX3_checkFace cX3_checkFace 1 none, .classLink RX3 148 "java/lang/IndexOutOfBoundsException", .initialized "java/lang/IndexOutOfBoundsException", .methodLink RX3 219 yX3_isFace, .static yX3_isFace, .code yX3_isFace cX3_isFace 1 (some .boolean)] ++ wsX30 ++ (vx_atS RX3 152 "java/lang/IndexOutOfBoundsException" ["java/lang/RuntimeException", "java/lang/Exception"]).filter goodWord)
def wsX3_isWall : List Cond := .code yX3_isWall cX3_isWall 3 (some .boolean) :: ([.fieldLink RX3 12 "PaintedDie" "board" "LPaintedDie$Board;", .methodLink RX3 45 yX3_checkCell, .instanceMethod yX3_checkCell, .selects RX3 yX3_checkCell yX3_checkCell, .initialized RX3, .code yX3_checkCell cX3_checkCell 3 none, .classLink RX3 148 "java/lang/IndexOutOfBoundsException", .initialized "java/lang/IndexOutOfBoundsException", .instanceMethod yX0_has, .initialized RX0, .selects RX0 yX0_has yX0_has, .code yX0_has cX0_has 3 (some .boolean), .fieldLink RX0 19 "PaintedDie$Board" "width" "I", .fieldLink RX0 23 "PaintedDie$Board" "height" "I", .instanceMethod yX0_isFree, .selects RX0 yX0_isFree yX0_isFree, .code yX0_isFree cX0_isFree 3 (some .boolean), .fieldLink RX0 9 "PaintedDie$Board" "isWalled" "[Z", .methodLink RX0 26 yX0_has, .methodLink RX0 30 yX0_cellAt, .static yX0_cellAt, .code yX0_cellAt cX0_cellAt 2 (some .int)] ++ wsX30 ++ wsX00 ++ (vx_atS RX3 152 "java/lang/IndexOutOfBoundsException" ["java/lang/RuntimeException", "java/lang/Exception"]).filter goodWord)
def wsX3_printAt : List Cond := .code yX3_printAt cX3_printAt 3 (some .int) :: ([.fieldLink RX3 12 "PaintedDie" "board" "LPaintedDie$Board;", .methodLink RX3 45 yX3_checkCell, .instanceMethod yX3_checkCell, .selects RX3 yX3_checkCell yX3_checkCell, .initialized RX3, .code yX3_checkCell cX3_checkCell 3 none, .classLink RX3 148 "java/lang/IndexOutOfBoundsException", .initialized "java/lang/IndexOutOfBoundsException", .instanceMethod yX0_has, .initialized RX0, .selects RX0 yX0_has yX0_has, .code yX0_has cX0_has 3 (some .boolean), .fieldLink RX0 19 "PaintedDie$Board" "width" "I", .fieldLink RX0 23 "PaintedDie$Board" "height" "I", .instanceMethod yX0_printOn, .selects RX0 yX0_printOn yX0_printOn, .code yX0_printOn cX0_printOn 3 (some .int), .fieldLink RX0 15 "PaintedDie$Board" "printed" "[I", .methodLink RX0 26 yX0_has, .methodLink RX0 30 yX0_cellAt, .static yX0_cellAt, .code yX0_cellAt cX0_cellAt 2 (some .int)] ++ wsX30 ++ wsX00 ++ (vx_atS RX3 152 "java/lang/IndexOutOfBoundsException" ["java/lang/RuntimeException", "java/lang/Exception"]).filter goodWord)
def wsX3_canRoll_r1 : List Cond := [Cond.fieldLink RX3 12 "PaintedDie" "board" "LPaintedDie$Board;", Cond.fieldLink RX3 52 "PaintedDie" "cell" "I", Cond.methodLink RX3 99 yX3_checkDirection, Cond.static yX3_checkDirection, Cond.initialized RX3, Cond.code yX3_checkDirection cX3_checkDirection 1 none, Cond.classLink RX3 148 "java/lang/IndexOutOfBoundsException", Cond.initialized "java/lang/IndexOutOfBoundsException", Cond.instanceMethod yX0_nextCell, Cond.initialized RX0, Cond.selects RX0 yX0_nextCell yX0_nextCell, Cond.code yX0_nextCell cX0_nextCell 5 (some .int), Cond.methodLink RX0 34 yX0_columnOf, Cond.static yX0_columnOf, Cond.code yX0_columnOf cX0_columnOf 1 (some .int), Cond.methodLink RX0 38 yX0_rowOf, Cond.static yX0_rowOf, Cond.code yX0_rowOf cX0_rowOf 1 (some .int), Cond.methodLink RX0 41 yX0_isFree, Cond.instanceMethod yX0_isFree, Cond.selects RX0 yX0_isFree yX0_isFree, Cond.code yX0_isFree cX0_isFree 3 (some .boolean), Cond.fieldLink RX0 9 "PaintedDie$Board" "isWalled" "[Z", Cond.methodLink RX0 26 yX0_has]
def wsX3_canRoll_r2 : List Cond := [Cond.instanceMethod yX0_has, Cond.selects RX0 yX0_has yX0_has, Cond.code yX0_has cX0_has 3 (some .boolean), Cond.fieldLink RX0 19 "PaintedDie$Board" "width" "I", Cond.fieldLink RX0 23 "PaintedDie$Board" "height" "I", Cond.methodLink RX0 30 yX0_cellAt, Cond.static yX0_cellAt, Cond.code yX0_cellAt cX0_cellAt 2 (some .int)]
def wsX3_canRoll : List Cond := .code yX3_canRoll cX3_canRoll 2 (some .boolean) :: ((wsX3_canRoll_r1 ++ wsX3_canRoll_r2) ++ wsX30 ++ wsX00 ++ (vx_atS RX3 152 "java/lang/IndexOutOfBoundsException" ["java/lang/RuntimeException", "java/lang/Exception"]).filter goodWord)
def wsX3_width : List Cond := .code yX3_width cX3_width 1 (some .int) :: ([.fieldLink RX3 12 "PaintedDie" "board" "LPaintedDie$Board;"] ++ wsX30 ++ wsX00)
def wsX3_height : List Cond := .code yX3_height cX3_height 1 (some .int) :: ([.fieldLink RX3 12 "PaintedDie" "board" "LPaintedDie$Board;"] ++ wsX30 ++ wsX00)
def wsX3_walls : List Cond := .code yX3_walls cX3_walls 1 (some .int) :: ([.fieldLink RX3 12 "PaintedDie" "board" "LPaintedDie$Board;", .instanceMethod yX0_countWalls, .initialized RX0, .selects RX0 yX0_countWalls yX0_countWalls, .code yX0_countWalls cX0_countWalls 3 (some .int), .fieldLink RX0 9 "PaintedDie$Board" "isWalled" "[Z"] ++ wsX30 ++ wsX00)
def wsX3_rolls : List Cond := .code yX3_rolls cX3_rolls 1 (some .int) :: ([.fieldLink RX3 142 "PaintedDie" "rollsMade" "I"] ++ wsX30)
def wsX3_prints : List Cond := .code yX3_prints cX3_prints 1 (some .int) :: ([.fieldLink RX3 145 "PaintedDie" "printsMade" "I"] ++ wsX30)
def wsX3_cellsWith : List Cond := .code yX3_cellsWith cX3_cellsWith 2 (some .int) :: ([.classLink RX3 148 "java/lang/IndexOutOfBoundsException", .initialized "java/lang/IndexOutOfBoundsException", .fieldLink RX3 12 "PaintedDie" "board" "LPaintedDie$Board;", .instanceMethod yX0_countPrints, .initialized RX0, .selects RX0 yX0_countPrints yX0_countPrints, .code yX0_countPrints cX0_countPrints 5 (some .int), .fieldLink RX0 23 "PaintedDie$Board" "height" "I", .fieldLink RX0 19 "PaintedDie$Board" "width" "I", .methodLink RX0 44 yX0_printOn, .instanceMethod yX0_printOn, .selects RX0 yX0_printOn yX0_printOn, .code yX0_printOn cX0_printOn 3 (some .int), .fieldLink RX0 15 "PaintedDie$Board" "printed" "[I", .methodLink RX0 26 yX0_has, .instanceMethod yX0_has, .selects RX0 yX0_has yX0_has, .code yX0_has cX0_has 3 (some .boolean), .methodLink RX0 30 yX0_cellAt, .static yX0_cellAt, .code yX0_cellAt cX0_cellAt 2 (some .int)] ++ wsX30 ++ wsX00 ++ (vx_atS RX3 152 "java/lang/IndexOutOfBoundsException" ["java/lang/RuntimeException", "java/lang/Exception"]).filter goodWord)
def wsX3_searchFromHere_r1 : List Cond := [Cond.fieldLink RX3 19 "PaintedDie" "search" "LPaintedDie$Search;", Cond.fieldLink RX3 52 "PaintedDie" "cell" "I", Cond.fieldLink RX3 96 "PaintedDie" "turn" "I", Cond.fieldLink RX3 12 "PaintedDie" "board" "LPaintedDie$Board;", Cond.instanceMethod yX1_forget, Cond.initialized RX1, Cond.selects RX1 yX1_forget yX1_forget, Cond.code yX1_forget cX1_forget 1 none, Cond.fieldLink RX1 11 "PaintedDie$Search" "fewest" "[I", Cond.fieldLink RX1 26 "PaintedDie$Search" "found" "I", Cond.methodLink RX1 20 yJ7_fill_53178, Cond.static yJ7_fill_53178, Cond.initialized RJ7, Cond.code yJ7_fill_53178 cJ7_fill_53178 4 none, Cond.instanceMethod yX1_reach, Cond.selects RX1 yX1_reach yX1_reach, Cond.code yX1_reach cX1_reach 5 none, Cond.fieldLink RX1 17 "PaintedDie$Search" "queue" "[I", Cond.instanceMethod yX1_spread, Cond.selects RX1 yX1_spread yX1_spread, Cond.code yX1_spread cX1_spread 8 none, Cond.methodLink RX1 30 yX1_rollsAt, Cond.instanceMethod yX1_rollsAt, Cond.selects RX1 yX1_rollsAt yX1_rollsAt]
def wsX3_searchFromHere_r2 : List Cond := [Cond.code yX1_rollsAt cX1_rollsAt 4 (some .int), Cond.instanceMethod yX0_nextCell, Cond.initialized RX0, Cond.selects RX0 yX0_nextCell yX0_nextCell, Cond.code yX0_nextCell cX0_nextCell 5 (some .int), Cond.methodLink RX0 34 yX0_columnOf, Cond.static yX0_columnOf, Cond.code yX0_columnOf cX0_columnOf 1 (some .int), Cond.methodLink RX0 38 yX0_rowOf, Cond.static yX0_rowOf, Cond.code yX0_rowOf cX0_rowOf 1 (some .int), Cond.methodLink RX0 41 yX0_isFree, Cond.instanceMethod yX0_isFree, Cond.selects RX0 yX0_isFree yX0_isFree, Cond.code yX0_isFree cX0_isFree 3 (some .boolean), Cond.fieldLink RX0 9 "PaintedDie$Board" "isWalled" "[Z", Cond.methodLink RX0 26 yX0_has, Cond.instanceMethod yX0_has, Cond.selects RX0 yX0_has yX0_has, Cond.code yX0_has cX0_has 3 (some .boolean), Cond.fieldLink RX0 19 "PaintedDie$Board" "width" "I", Cond.fieldLink RX0 23 "PaintedDie$Board" "height" "I", Cond.methodLink RX0 30 yX0_cellAt, Cond.static yX0_cellAt]
def wsX3_searchFromHere_r3 : List Cond := [Cond.code yX0_cellAt cX0_cellAt 2 (some .int), Cond.static yX2_behindRoll, Cond.initialized RX2, Cond.code yX2_behindRoll cX2_behindRoll 4 (some .int), Cond.methodLink RX2 9 yX2_topOf, Cond.static yX2_topOf, Cond.code yX2_topOf cX2_topOf 1 (some .int), Cond.methodLink RX2 15 yX2_northOf, Cond.static yX2_northOf, Cond.code yX2_northOf cX2_northOf 1 (some .int), Cond.methodLink RX2 24 yX2_with, Cond.static yX2_with, Cond.code yX2_with cX2_with 2 (some .int), Cond.methodLink RX2 21 yX2_eastOf, Cond.static yX2_eastOf, Cond.code yX2_eastOf cX2_eastOf 5 (some .int), Cond.methodLink RX2 18 yX2_axisOf, Cond.static yX2_axisOf, Cond.code yX2_axisOf cX2_axisOf 1 (some .int), Cond.methodLink RX1 42 yX1_reach]
def wsX3_searchFromHere : List Cond := .code yX3_searchFromHere cX3_searchFromHere 1 none :: ((wsX3_searchFromHere_r1 ++ (wsX3_searchFromHere_r2 ++ wsX3_searchFromHere_r3)) ++ wsX30 ++ wsX10 ++ wsX00)
def wsX3_fewestRolls_r1 : List Cond := [Cond.fieldLink RX3 19 "PaintedDie" "search" "LPaintedDie$Search;", Cond.methodLink RX3 45 yX3_checkCell, Cond.instanceMethod yX3_checkCell, Cond.selects RX3 yX3_checkCell yX3_checkCell, Cond.initialized RX3, Cond.code yX3_checkCell cX3_checkCell 3 none, Cond.classLink RX3 148 "java/lang/IndexOutOfBoundsException", Cond.initialized "java/lang/IndexOutOfBoundsException", Cond.fieldLink RX3 12 "PaintedDie" "board" "LPaintedDie$Board;", Cond.instanceMethod yX0_has, Cond.initialized RX0, Cond.selects RX0 yX0_has yX0_has, Cond.code yX0_has cX0_has 3 (some .boolean), Cond.fieldLink RX0 19 "PaintedDie$Board" "width" "I", Cond.fieldLink RX0 23 "PaintedDie$Board" "height" "I", Cond.methodLink RX3 156 yX3_searchFromHere, Cond.instanceMethod yX3_searchFromHere, Cond.selects RX3 yX3_searchFromHere yX3_searchFromHere, Cond.code yX3_searchFromHere cX3_searchFromHere 1 none, Cond.fieldLink RX3 52 "PaintedDie" "cell" "I", Cond.fieldLink RX3 96 "PaintedDie" "turn" "I", Cond.instanceMethod yX1_forget, Cond.initialized RX1, Cond.selects RX1 yX1_forget yX1_forget]
def wsX3_fewestRolls_r2 : List Cond := [Cond.code yX1_forget cX1_forget 1 none, Cond.fieldLink RX1 11 "PaintedDie$Search" "fewest" "[I", Cond.fieldLink RX1 26 "PaintedDie$Search" "found" "I", Cond.methodLink RX1 20 yJ7_fill_53178, Cond.static yJ7_fill_53178, Cond.initialized RJ7, Cond.code yJ7_fill_53178 cJ7_fill_53178 4 none, Cond.instanceMethod yX1_reach, Cond.selects RX1 yX1_reach yX1_reach, Cond.code yX1_reach cX1_reach 5 none, Cond.fieldLink RX1 17 "PaintedDie$Search" "queue" "[I", Cond.instanceMethod yX1_spread, Cond.selects RX1 yX1_spread yX1_spread, Cond.code yX1_spread cX1_spread 8 none, Cond.methodLink RX1 30 yX1_rollsAt, Cond.instanceMethod yX1_rollsAt, Cond.selects RX1 yX1_rollsAt yX1_rollsAt, Cond.code yX1_rollsAt cX1_rollsAt 4 (some .int), Cond.instanceMethod yX0_nextCell, Cond.selects RX0 yX0_nextCell yX0_nextCell, Cond.code yX0_nextCell cX0_nextCell 5 (some .int), Cond.methodLink RX0 34 yX0_columnOf, Cond.static yX0_columnOf, Cond.code yX0_columnOf cX0_columnOf 1 (some .int)]
def wsX3_fewestRolls_r3 : List Cond := [Cond.methodLink RX0 38 yX0_rowOf, Cond.static yX0_rowOf, Cond.code yX0_rowOf cX0_rowOf 1 (some .int), Cond.methodLink RX0 41 yX0_isFree, Cond.instanceMethod yX0_isFree, Cond.selects RX0 yX0_isFree yX0_isFree, Cond.code yX0_isFree cX0_isFree 3 (some .boolean), Cond.fieldLink RX0 9 "PaintedDie$Board" "isWalled" "[Z", Cond.methodLink RX0 26 yX0_has, Cond.methodLink RX0 30 yX0_cellAt, Cond.static yX0_cellAt, Cond.code yX0_cellAt cX0_cellAt 2 (some .int), Cond.static yX2_behindRoll, Cond.initialized RX2, Cond.code yX2_behindRoll cX2_behindRoll 4 (some .int), Cond.methodLink RX2 9 yX2_topOf, Cond.static yX2_topOf, Cond.code yX2_topOf cX2_topOf 1 (some .int), Cond.methodLink RX2 15 yX2_northOf, Cond.static yX2_northOf, Cond.code yX2_northOf cX2_northOf 1 (some .int), Cond.methodLink RX2 24 yX2_with, Cond.static yX2_with, Cond.code yX2_with cX2_with 2 (some .int)]
def wsX3_fewestRolls_r4 : List Cond := [Cond.methodLink RX2 21 yX2_eastOf, Cond.static yX2_eastOf, Cond.code yX2_eastOf cX2_eastOf 5 (some .int), Cond.methodLink RX2 18 yX2_axisOf, Cond.static yX2_axisOf, Cond.code yX2_axisOf cX2_axisOf 1 (some .int), Cond.methodLink RX1 42 yX1_reach, Cond.instanceMethod yX1_fewestTo, Cond.selects RX1 yX1_fewestTo yX1_fewestTo, Cond.code yX1_fewestTo cX1_fewestTo 4 (some .int), Cond.methodLink RX1 52 yX1_fewestWithTop, Cond.instanceMethod yX1_fewestWithTop, Cond.selects RX1 yX1_fewestWithTop yX1_fewestWithTop, Cond.code yX1_fewestWithTop cX1_fewestWithTop 5 (some .int), Cond.methodLink RX1 49 yX1_fewerOf, Cond.static yX1_fewerOf, Cond.code yX1_fewerOf cX1_fewerOf 2 (some .int), Cond.methodLink RX1 55 Lib.Math.min.name, Cond.static Lib.Math.min.name, Cond.initialized "java/lang/Math", Cond.code Lib.Math.min.name Lib.Math.min.code 2 (some .int)]
def wsX3_fewestRolls : List Cond := .code yX3_fewestRolls cX3_fewestRolls 3 (some .int) :: ((wsX3_fewestRolls_r1 ++ (wsX3_fewestRolls_r2 ++ (wsX3_fewestRolls_r3 ++ wsX3_fewestRolls_r4))) ++ wsX30 ++ wsX00 ++ wsX10 ++ (vx_atS RX3 152 "java/lang/IndexOutOfBoundsException" ["java/lang/RuntimeException", "java/lang/Exception"]).filter goodWord)
def wsX3_fewestRollsWithTop_r1 : List Cond := [Cond.fieldLink RX3 19 "PaintedDie" "search" "LPaintedDie$Search;", Cond.methodLink RX3 45 yX3_checkCell, Cond.instanceMethod yX3_checkCell, Cond.selects RX3 yX3_checkCell yX3_checkCell, Cond.initialized RX3, Cond.code yX3_checkCell cX3_checkCell 3 none, Cond.classLink RX3 148 "java/lang/IndexOutOfBoundsException", Cond.initialized "java/lang/IndexOutOfBoundsException", Cond.fieldLink RX3 12 "PaintedDie" "board" "LPaintedDie$Board;", Cond.instanceMethod yX0_has, Cond.initialized RX0, Cond.selects RX0 yX0_has yX0_has, Cond.code yX0_has cX0_has 3 (some .boolean), Cond.fieldLink RX0 19 "PaintedDie$Board" "width" "I", Cond.fieldLink RX0 23 "PaintedDie$Board" "height" "I", Cond.methodLink RX3 64 yX3_checkFace, Cond.static yX3_checkFace, Cond.code yX3_checkFace cX3_checkFace 1 none, Cond.methodLink RX3 219 yX3_isFace, Cond.static yX3_isFace, Cond.code yX3_isFace cX3_isFace 1 (some .boolean), Cond.methodLink RX3 156 yX3_searchFromHere, Cond.instanceMethod yX3_searchFromHere, Cond.selects RX3 yX3_searchFromHere yX3_searchFromHere]
def wsX3_fewestRollsWithTop_r2 : List Cond := [Cond.code yX3_searchFromHere cX3_searchFromHere 1 none, Cond.fieldLink RX3 52 "PaintedDie" "cell" "I", Cond.fieldLink RX3 96 "PaintedDie" "turn" "I", Cond.instanceMethod yX1_forget, Cond.initialized RX1, Cond.selects RX1 yX1_forget yX1_forget, Cond.code yX1_forget cX1_forget 1 none, Cond.fieldLink RX1 11 "PaintedDie$Search" "fewest" "[I", Cond.fieldLink RX1 26 "PaintedDie$Search" "found" "I", Cond.methodLink RX1 20 yJ7_fill_53178, Cond.static yJ7_fill_53178, Cond.initialized RJ7, Cond.code yJ7_fill_53178 cJ7_fill_53178 4 none, Cond.instanceMethod yX1_reach, Cond.selects RX1 yX1_reach yX1_reach, Cond.code yX1_reach cX1_reach 5 none, Cond.fieldLink RX1 17 "PaintedDie$Search" "queue" "[I", Cond.instanceMethod yX1_spread, Cond.selects RX1 yX1_spread yX1_spread, Cond.code yX1_spread cX1_spread 8 none, Cond.methodLink RX1 30 yX1_rollsAt, Cond.instanceMethod yX1_rollsAt, Cond.selects RX1 yX1_rollsAt yX1_rollsAt, Cond.code yX1_rollsAt cX1_rollsAt 4 (some .int)]
def wsX3_fewestRollsWithTop_r3 : List Cond := [Cond.instanceMethod yX0_nextCell, Cond.selects RX0 yX0_nextCell yX0_nextCell, Cond.code yX0_nextCell cX0_nextCell 5 (some .int), Cond.methodLink RX0 34 yX0_columnOf, Cond.static yX0_columnOf, Cond.code yX0_columnOf cX0_columnOf 1 (some .int), Cond.methodLink RX0 38 yX0_rowOf, Cond.static yX0_rowOf, Cond.code yX0_rowOf cX0_rowOf 1 (some .int), Cond.methodLink RX0 41 yX0_isFree, Cond.instanceMethod yX0_isFree, Cond.selects RX0 yX0_isFree yX0_isFree, Cond.code yX0_isFree cX0_isFree 3 (some .boolean), Cond.fieldLink RX0 9 "PaintedDie$Board" "isWalled" "[Z", Cond.methodLink RX0 26 yX0_has, Cond.methodLink RX0 30 yX0_cellAt, Cond.static yX0_cellAt, Cond.code yX0_cellAt cX0_cellAt 2 (some .int), Cond.static yX2_behindRoll, Cond.initialized RX2, Cond.code yX2_behindRoll cX2_behindRoll 4 (some .int), Cond.methodLink RX2 9 yX2_topOf, Cond.static yX2_topOf, Cond.code yX2_topOf cX2_topOf 1 (some .int)]
def wsX3_fewestRollsWithTop_r4 : List Cond := [Cond.methodLink RX2 15 yX2_northOf, Cond.static yX2_northOf, Cond.code yX2_northOf cX2_northOf 1 (some .int), Cond.methodLink RX2 24 yX2_with, Cond.static yX2_with, Cond.code yX2_with cX2_with 2 (some .int), Cond.methodLink RX2 21 yX2_eastOf, Cond.static yX2_eastOf, Cond.code yX2_eastOf cX2_eastOf 5 (some .int), Cond.methodLink RX2 18 yX2_axisOf, Cond.static yX2_axisOf, Cond.code yX2_axisOf cX2_axisOf 1 (some .int), Cond.methodLink RX1 42 yX1_reach, Cond.instanceMethod yX1_fewestWithTop, Cond.selects RX1 yX1_fewestWithTop yX1_fewestWithTop, Cond.code yX1_fewestWithTop cX1_fewestWithTop 5 (some .int), Cond.methodLink RX1 49 yX1_fewerOf, Cond.static yX1_fewerOf, Cond.code yX1_fewerOf cX1_fewerOf 2 (some .int), Cond.methodLink RX1 55 Lib.Math.min.name, Cond.static Lib.Math.min.name, Cond.initialized "java/lang/Math", Cond.code Lib.Math.min.name Lib.Math.min.code 2 (some .int)]
def wsX3_fewestRollsWithTop : List Cond := .code yX3_fewestRollsWithTop cX3_fewestRollsWithTop 4 (some .int) :: ((wsX3_fewestRollsWithTop_r1 ++ (wsX3_fewestRollsWithTop_r2 ++ (wsX3_fewestRollsWithTop_r3 ++ wsX3_fewestRollsWithTop_r4))) ++ wsX30 ++ wsX00 ++ wsX10 ++ (vx_atS RX3 152 "java/lang/IndexOutOfBoundsException" ["java/lang/RuntimeException", "java/lang/Exception"]).filter goodWord)
def wsX3_searchBackFrom_r1 : List Cond := [Cond.fieldLink RX3 19 "PaintedDie" "search" "LPaintedDie$Search;", Cond.fieldLink RX3 12 "PaintedDie" "board" "LPaintedDie$Board;", Cond.instanceMethod yX1_forget, Cond.initialized RX1, Cond.selects RX1 yX1_forget yX1_forget, Cond.code yX1_forget cX1_forget 1 none, Cond.fieldLink RX1 11 "PaintedDie$Search" "fewest" "[I", Cond.fieldLink RX1 26 "PaintedDie$Search" "found" "I", Cond.methodLink RX1 20 yJ7_fill_53178, Cond.static yJ7_fill_53178, Cond.initialized RJ7, Cond.code yJ7_fill_53178 cJ7_fill_53178 4 none, Cond.instanceMethod yX0_isFreeCell, Cond.initialized RX0, Cond.selects RX0 yX0_isFreeCell yX0_isFreeCell, Cond.code yX0_isFreeCell cX0_isFreeCell 2 (some .boolean), Cond.methodLink RX0 34 yX0_columnOf, Cond.static yX0_columnOf, Cond.code yX0_columnOf cX0_columnOf 1 (some .int), Cond.methodLink RX0 38 yX0_rowOf, Cond.static yX0_rowOf, Cond.code yX0_rowOf cX0_rowOf 1 (some .int), Cond.methodLink RX0 41 yX0_isFree, Cond.instanceMethod yX0_isFree]
def wsX3_searchBackFrom_r2 : List Cond := [Cond.selects RX0 yX0_isFree yX0_isFree, Cond.code yX0_isFree cX0_isFree 3 (some .boolean), Cond.fieldLink RX0 9 "PaintedDie$Board" "isWalled" "[Z", Cond.methodLink RX0 26 yX0_has, Cond.instanceMethod yX0_has, Cond.selects RX0 yX0_has yX0_has, Cond.code yX0_has cX0_has 3 (some .boolean), Cond.fieldLink RX0 19 "PaintedDie$Board" "width" "I", Cond.fieldLink RX0 23 "PaintedDie$Board" "height" "I", Cond.methodLink RX0 30 yX0_cellAt, Cond.static yX0_cellAt, Cond.code yX0_cellAt cX0_cellAt 2 (some .int), Cond.static yX2_with, Cond.initialized RX2, Cond.code yX2_with cX2_with 2 (some .int), Cond.instanceMethod yX1_reach, Cond.selects RX1 yX1_reach yX1_reach, Cond.code yX1_reach cX1_reach 5 none, Cond.fieldLink RX1 17 "PaintedDie$Search" "queue" "[I", Cond.instanceMethod yX1_spread, Cond.selects RX1 yX1_spread yX1_spread, Cond.code yX1_spread cX1_spread 8 none, Cond.methodLink RX1 30 yX1_rollsAt, Cond.instanceMethod yX1_rollsAt]
def wsX3_searchBackFrom_r3 : List Cond := [Cond.selects RX1 yX1_rollsAt yX1_rollsAt, Cond.code yX1_rollsAt cX1_rollsAt 4 (some .int), Cond.instanceMethod yX0_nextCell, Cond.selects RX0 yX0_nextCell yX0_nextCell, Cond.code yX0_nextCell cX0_nextCell 5 (some .int), Cond.static yX2_behindRoll, Cond.code yX2_behindRoll cX2_behindRoll 4 (some .int), Cond.methodLink RX2 9 yX2_topOf, Cond.static yX2_topOf, Cond.code yX2_topOf cX2_topOf 1 (some .int), Cond.methodLink RX2 15 yX2_northOf, Cond.static yX2_northOf, Cond.code yX2_northOf cX2_northOf 1 (some .int), Cond.methodLink RX2 24 yX2_with, Cond.methodLink RX2 21 yX2_eastOf, Cond.static yX2_eastOf, Cond.code yX2_eastOf cX2_eastOf 5 (some .int), Cond.methodLink RX2 18 yX2_axisOf, Cond.static yX2_axisOf, Cond.code yX2_axisOf cX2_axisOf 1 (some .int), Cond.methodLink RX1 42 yX1_reach]
def wsX3_searchBackFrom : List Cond := .code yX3_searchBackFrom cX3_searchBackFrom 4 none :: ((wsX3_searchBackFrom_r1 ++ (wsX3_searchBackFrom_r2 ++ wsX3_searchBackFrom_r3)) ++ wsX30 ++ wsX10 ++ wsX00)
def wsX3_firstRoll_r1 : List Cond := [Cond.fieldLink RX3 19 "PaintedDie" "search" "LPaintedDie$Search;", Cond.fieldLink RX3 52 "PaintedDie" "cell" "I", Cond.fieldLink RX3 96 "PaintedDie" "turn" "I", Cond.fieldLink RX3 12 "PaintedDie" "board" "LPaintedDie$Board;", Cond.methodLink RX3 45 yX3_checkCell, Cond.instanceMethod yX3_checkCell, Cond.selects RX3 yX3_checkCell yX3_checkCell, Cond.initialized RX3, Cond.code yX3_checkCell cX3_checkCell 3 none, Cond.classLink RX3 148 "java/lang/IndexOutOfBoundsException", Cond.initialized "java/lang/IndexOutOfBoundsException", Cond.instanceMethod yX0_has, Cond.initialized RX0, Cond.selects RX0 yX0_has yX0_has, Cond.code yX0_has cX0_has 3 (some .boolean), Cond.fieldLink RX0 19 "PaintedDie$Board" "width" "I", Cond.fieldLink RX0 23 "PaintedDie$Board" "height" "I", Cond.methodLink RX3 64 yX3_checkFace, Cond.static yX3_checkFace, Cond.code yX3_checkFace cX3_checkFace 1 none, Cond.methodLink RX3 219 yX3_isFace, Cond.static yX3_isFace, Cond.code yX3_isFace cX3_isFace 1 (some .boolean), Cond.static yX0_cellAt]
def wsX3_firstRoll_r2 : List Cond := [Cond.code yX0_cellAt cX0_cellAt 2 (some .int), Cond.methodLink RX3 165 yX3_searchBackFrom, Cond.instanceMethod yX3_searchBackFrom, Cond.selects RX3 yX3_searchBackFrom yX3_searchBackFrom, Cond.code yX3_searchBackFrom cX3_searchBackFrom 4 none, Cond.instanceMethod yX1_forget, Cond.initialized RX1, Cond.selects RX1 yX1_forget yX1_forget, Cond.code yX1_forget cX1_forget 1 none, Cond.fieldLink RX1 11 "PaintedDie$Search" "fewest" "[I", Cond.fieldLink RX1 26 "PaintedDie$Search" "found" "I", Cond.methodLink RX1 20 yJ7_fill_53178, Cond.static yJ7_fill_53178, Cond.initialized RJ7, Cond.code yJ7_fill_53178 cJ7_fill_53178 4 none, Cond.instanceMethod yX0_isFreeCell, Cond.selects RX0 yX0_isFreeCell yX0_isFreeCell, Cond.code yX0_isFreeCell cX0_isFreeCell 2 (some .boolean), Cond.methodLink RX0 34 yX0_columnOf, Cond.static yX0_columnOf, Cond.code yX0_columnOf cX0_columnOf 1 (some .int), Cond.methodLink RX0 38 yX0_rowOf, Cond.static yX0_rowOf, Cond.code yX0_rowOf cX0_rowOf 1 (some .int)]
def wsX3_firstRoll_r3 : List Cond := [Cond.methodLink RX0 41 yX0_isFree, Cond.instanceMethod yX0_isFree, Cond.selects RX0 yX0_isFree yX0_isFree, Cond.code yX0_isFree cX0_isFree 3 (some .boolean), Cond.fieldLink RX0 9 "PaintedDie$Board" "isWalled" "[Z", Cond.methodLink RX0 26 yX0_has, Cond.methodLink RX0 30 yX0_cellAt, Cond.static yX2_with, Cond.initialized RX2, Cond.code yX2_with cX2_with 2 (some .int), Cond.instanceMethod yX1_reach, Cond.selects RX1 yX1_reach yX1_reach, Cond.code yX1_reach cX1_reach 5 none, Cond.fieldLink RX1 17 "PaintedDie$Search" "queue" "[I", Cond.instanceMethod yX1_spread, Cond.selects RX1 yX1_spread yX1_spread, Cond.code yX1_spread cX1_spread 8 none, Cond.methodLink RX1 30 yX1_rollsAt, Cond.instanceMethod yX1_rollsAt, Cond.selects RX1 yX1_rollsAt yX1_rollsAt, Cond.code yX1_rollsAt cX1_rollsAt 4 (some .int), Cond.instanceMethod yX0_nextCell, Cond.selects RX0 yX0_nextCell yX0_nextCell, Cond.code yX0_nextCell cX0_nextCell 5 (some .int)]
def wsX3_firstRoll_r4 : List Cond := [Cond.static yX2_behindRoll, Cond.code yX2_behindRoll cX2_behindRoll 4 (some .int), Cond.methodLink RX2 9 yX2_topOf, Cond.static yX2_topOf, Cond.code yX2_topOf cX2_topOf 1 (some .int), Cond.methodLink RX2 15 yX2_northOf, Cond.static yX2_northOf, Cond.code yX2_northOf cX2_northOf 1 (some .int), Cond.methodLink RX2 24 yX2_with, Cond.methodLink RX2 21 yX2_eastOf, Cond.static yX2_eastOf, Cond.code yX2_eastOf cX2_eastOf 5 (some .int), Cond.methodLink RX2 18 yX2_axisOf, Cond.static yX2_axisOf, Cond.code yX2_axisOf cX2_axisOf 1 (some .int), Cond.methodLink RX1 42 yX1_reach]
def wsX3_firstRoll : List Cond := .code yX3_firstRoll cX3_firstRoll 7 (some .int) :: ((wsX3_firstRoll_r1 ++ (wsX3_firstRoll_r2 ++ (wsX3_firstRoll_r3 ++ wsX3_firstRoll_r4))) ++ wsX30 ++ wsX00 ++ wsX10 ++ (vx_atS RX3 152 "java/lang/IndexOutOfBoundsException" ["java/lang/RuntimeException", "java/lang/Exception"]).filter goodWord)
def wsX3_topsAt_r1 : List Cond := [Cond.fieldLink RX3 19 "PaintedDie" "search" "LPaintedDie$Search;", Cond.methodLink RX3 45 yX3_checkCell, Cond.instanceMethod yX3_checkCell, Cond.selects RX3 yX3_checkCell yX3_checkCell, Cond.initialized RX3, Cond.code yX3_checkCell cX3_checkCell 3 none, Cond.classLink RX3 148 "java/lang/IndexOutOfBoundsException", Cond.initialized "java/lang/IndexOutOfBoundsException", Cond.fieldLink RX3 12 "PaintedDie" "board" "LPaintedDie$Board;", Cond.instanceMethod yX0_has, Cond.initialized RX0, Cond.selects RX0 yX0_has yX0_has, Cond.code yX0_has cX0_has 3 (some .boolean), Cond.fieldLink RX0 19 "PaintedDie$Board" "width" "I", Cond.fieldLink RX0 23 "PaintedDie$Board" "height" "I", Cond.methodLink RX3 156 yX3_searchFromHere, Cond.instanceMethod yX3_searchFromHere, Cond.selects RX3 yX3_searchFromHere yX3_searchFromHere, Cond.code yX3_searchFromHere cX3_searchFromHere 1 none, Cond.fieldLink RX3 52 "PaintedDie" "cell" "I", Cond.fieldLink RX3 96 "PaintedDie" "turn" "I", Cond.instanceMethod yX1_forget, Cond.initialized RX1, Cond.selects RX1 yX1_forget yX1_forget]
def wsX3_topsAt_r2 : List Cond := [Cond.code yX1_forget cX1_forget 1 none, Cond.fieldLink RX1 11 "PaintedDie$Search" "fewest" "[I", Cond.fieldLink RX1 26 "PaintedDie$Search" "found" "I", Cond.methodLink RX1 20 yJ7_fill_53178, Cond.static yJ7_fill_53178, Cond.initialized RJ7, Cond.code yJ7_fill_53178 cJ7_fill_53178 4 none, Cond.instanceMethod yX1_reach, Cond.selects RX1 yX1_reach yX1_reach, Cond.code yX1_reach cX1_reach 5 none, Cond.fieldLink RX1 17 "PaintedDie$Search" "queue" "[I", Cond.instanceMethod yX1_spread, Cond.selects RX1 yX1_spread yX1_spread, Cond.code yX1_spread cX1_spread 8 none, Cond.methodLink RX1 30 yX1_rollsAt, Cond.instanceMethod yX1_rollsAt, Cond.selects RX1 yX1_rollsAt yX1_rollsAt, Cond.code yX1_rollsAt cX1_rollsAt 4 (some .int), Cond.instanceMethod yX0_nextCell, Cond.selects RX0 yX0_nextCell yX0_nextCell, Cond.code yX0_nextCell cX0_nextCell 5 (some .int), Cond.methodLink RX0 34 yX0_columnOf, Cond.static yX0_columnOf, Cond.code yX0_columnOf cX0_columnOf 1 (some .int)]
def wsX3_topsAt_r3 : List Cond := [Cond.methodLink RX0 38 yX0_rowOf, Cond.static yX0_rowOf, Cond.code yX0_rowOf cX0_rowOf 1 (some .int), Cond.methodLink RX0 41 yX0_isFree, Cond.instanceMethod yX0_isFree, Cond.selects RX0 yX0_isFree yX0_isFree, Cond.code yX0_isFree cX0_isFree 3 (some .boolean), Cond.fieldLink RX0 9 "PaintedDie$Board" "isWalled" "[Z", Cond.methodLink RX0 26 yX0_has, Cond.methodLink RX0 30 yX0_cellAt, Cond.static yX0_cellAt, Cond.code yX0_cellAt cX0_cellAt 2 (some .int), Cond.static yX2_behindRoll, Cond.initialized RX2, Cond.code yX2_behindRoll cX2_behindRoll 4 (some .int), Cond.methodLink RX2 9 yX2_topOf, Cond.static yX2_topOf, Cond.code yX2_topOf cX2_topOf 1 (some .int), Cond.methodLink RX2 15 yX2_northOf, Cond.static yX2_northOf, Cond.code yX2_northOf cX2_northOf 1 (some .int), Cond.methodLink RX2 24 yX2_with, Cond.static yX2_with, Cond.code yX2_with cX2_with 2 (some .int)]
def wsX3_topsAt_r4 : List Cond := [Cond.methodLink RX2 21 yX2_eastOf, Cond.static yX2_eastOf, Cond.code yX2_eastOf cX2_eastOf 5 (some .int), Cond.methodLink RX2 18 yX2_axisOf, Cond.static yX2_axisOf, Cond.code yX2_axisOf cX2_axisOf 1 (some .int), Cond.methodLink RX1 42 yX1_reach, Cond.instanceMethod yX1_countTops, Cond.selects RX1 yX1_countTops yX1_countTops, Cond.code yX1_countTops cX1_countTops 4 (some .int), Cond.methodLink RX1 52 yX1_fewestWithTop, Cond.instanceMethod yX1_fewestWithTop, Cond.selects RX1 yX1_fewestWithTop yX1_fewestWithTop, Cond.code yX1_fewestWithTop cX1_fewestWithTop 5 (some .int), Cond.methodLink RX1 49 yX1_fewerOf, Cond.static yX1_fewerOf, Cond.code yX1_fewerOf cX1_fewerOf 2 (some .int), Cond.methodLink RX1 55 Lib.Math.min.name, Cond.static Lib.Math.min.name, Cond.initialized "java/lang/Math", Cond.code Lib.Math.min.name Lib.Math.min.code 2 (some .int)]
def wsX3_topsAt : List Cond := .code yX3_topsAt cX3_topsAt 3 (some .int) :: ((wsX3_topsAt_r1 ++ (wsX3_topsAt_r2 ++ (wsX3_topsAt_r3 ++ wsX3_topsAt_r4))) ++ wsX30 ++ wsX00 ++ wsX10 ++ (vx_atS RX3 152 "java/lang/IndexOutOfBoundsException" ["java/lang/RuntimeException", "java/lang/Exception"]).filter goodWord)
def wsX3_cellsWithinReach_r1 : List Cond := [Cond.fieldLink RX3 19 "PaintedDie" "search" "LPaintedDie$Search;", Cond.methodLink RX3 156 yX3_searchFromHere, Cond.instanceMethod yX3_searchFromHere, Cond.selects RX3 yX3_searchFromHere yX3_searchFromHere, Cond.initialized RX3, Cond.code yX3_searchFromHere cX3_searchFromHere 1 none, Cond.fieldLink RX3 52 "PaintedDie" "cell" "I", Cond.fieldLink RX3 96 "PaintedDie" "turn" "I", Cond.fieldLink RX3 12 "PaintedDie" "board" "LPaintedDie$Board;", Cond.instanceMethod yX1_forget, Cond.initialized RX1, Cond.selects RX1 yX1_forget yX1_forget, Cond.code yX1_forget cX1_forget 1 none, Cond.fieldLink RX1 11 "PaintedDie$Search" "fewest" "[I", Cond.fieldLink RX1 26 "PaintedDie$Search" "found" "I", Cond.methodLink RX1 20 yJ7_fill_53178, Cond.static yJ7_fill_53178, Cond.initialized RJ7, Cond.code yJ7_fill_53178 cJ7_fill_53178 4 none, Cond.instanceMethod yX1_reach, Cond.selects RX1 yX1_reach yX1_reach, Cond.code yX1_reach cX1_reach 5 none, Cond.fieldLink RX1 17 "PaintedDie$Search" "queue" "[I", Cond.instanceMethod yX1_spread]
def wsX3_cellsWithinReach_r2 : List Cond := [Cond.selects RX1 yX1_spread yX1_spread, Cond.code yX1_spread cX1_spread 8 none, Cond.methodLink RX1 30 yX1_rollsAt, Cond.instanceMethod yX1_rollsAt, Cond.selects RX1 yX1_rollsAt yX1_rollsAt, Cond.code yX1_rollsAt cX1_rollsAt 4 (some .int), Cond.instanceMethod yX0_nextCell, Cond.initialized RX0, Cond.selects RX0 yX0_nextCell yX0_nextCell, Cond.code yX0_nextCell cX0_nextCell 5 (some .int), Cond.methodLink RX0 34 yX0_columnOf, Cond.static yX0_columnOf, Cond.code yX0_columnOf cX0_columnOf 1 (some .int), Cond.methodLink RX0 38 yX0_rowOf, Cond.static yX0_rowOf, Cond.code yX0_rowOf cX0_rowOf 1 (some .int), Cond.methodLink RX0 41 yX0_isFree, Cond.instanceMethod yX0_isFree, Cond.selects RX0 yX0_isFree yX0_isFree, Cond.code yX0_isFree cX0_isFree 3 (some .boolean), Cond.fieldLink RX0 9 "PaintedDie$Board" "isWalled" "[Z", Cond.methodLink RX0 26 yX0_has, Cond.instanceMethod yX0_has, Cond.selects RX0 yX0_has yX0_has]
def wsX3_cellsWithinReach_r3 : List Cond := [Cond.code yX0_has cX0_has 3 (some .boolean), Cond.fieldLink RX0 19 "PaintedDie$Board" "width" "I", Cond.fieldLink RX0 23 "PaintedDie$Board" "height" "I", Cond.methodLink RX0 30 yX0_cellAt, Cond.static yX0_cellAt, Cond.code yX0_cellAt cX0_cellAt 2 (some .int), Cond.static yX2_behindRoll, Cond.initialized RX2, Cond.code yX2_behindRoll cX2_behindRoll 4 (some .int), Cond.methodLink RX2 9 yX2_topOf, Cond.static yX2_topOf, Cond.code yX2_topOf cX2_topOf 1 (some .int), Cond.methodLink RX2 15 yX2_northOf, Cond.static yX2_northOf, Cond.code yX2_northOf cX2_northOf 1 (some .int), Cond.methodLink RX2 24 yX2_with, Cond.static yX2_with, Cond.code yX2_with cX2_with 2 (some .int), Cond.methodLink RX2 21 yX2_eastOf, Cond.static yX2_eastOf, Cond.code yX2_eastOf cX2_eastOf 5 (some .int), Cond.methodLink RX2 18 yX2_axisOf, Cond.static yX2_axisOf, Cond.code yX2_axisOf cX2_axisOf 1 (some .int)]
def wsX3_cellsWithinReach_r4 : List Cond := [Cond.methodLink RX1 42 yX1_reach, Cond.instanceMethod yX1_fewestTo, Cond.selects RX1 yX1_fewestTo yX1_fewestTo, Cond.code yX1_fewestTo cX1_fewestTo 4 (some .int), Cond.methodLink RX1 52 yX1_fewestWithTop, Cond.instanceMethod yX1_fewestWithTop, Cond.selects RX1 yX1_fewestWithTop yX1_fewestWithTop, Cond.code yX1_fewestWithTop cX1_fewestWithTop 5 (some .int), Cond.methodLink RX1 49 yX1_fewerOf, Cond.static yX1_fewerOf, Cond.code yX1_fewerOf cX1_fewerOf 2 (some .int), Cond.methodLink RX1 55 Lib.Math.min.name, Cond.static Lib.Math.min.name, Cond.initialized "java/lang/Math", Cond.code Lib.Math.min.name Lib.Math.min.code 2 (some .int)]
def wsX3_cellsWithinReach : List Cond := .code yX3_cellsWithinReach cX3_cellsWithinReach 3 (some .int) :: ((wsX3_cellsWithinReach_r1 ++ (wsX3_cellsWithinReach_r2 ++ (wsX3_cellsWithinReach_r3 ++ wsX3_cellsWithinReach_r4))) ++ wsX30 ++ wsX10 ++ wsX00)
def wsX3_waysToLie_r1 : List Cond := [Cond.fieldLink RX3 19 "PaintedDie" "search" "LPaintedDie$Search;", Cond.methodLink RX3 156 yX3_searchFromHere, Cond.instanceMethod yX3_searchFromHere, Cond.selects RX3 yX3_searchFromHere yX3_searchFromHere, Cond.initialized RX3, Cond.code yX3_searchFromHere cX3_searchFromHere 1 none, Cond.fieldLink RX3 52 "PaintedDie" "cell" "I", Cond.fieldLink RX3 96 "PaintedDie" "turn" "I", Cond.fieldLink RX3 12 "PaintedDie" "board" "LPaintedDie$Board;", Cond.instanceMethod yX1_forget, Cond.initialized RX1, Cond.selects RX1 yX1_forget yX1_forget, Cond.code yX1_forget cX1_forget 1 none, Cond.fieldLink RX1 11 "PaintedDie$Search" "fewest" "[I", Cond.fieldLink RX1 26 "PaintedDie$Search" "found" "I", Cond.methodLink RX1 20 yJ7_fill_53178, Cond.static yJ7_fill_53178, Cond.initialized RJ7, Cond.code yJ7_fill_53178 cJ7_fill_53178 4 none, Cond.instanceMethod yX1_reach, Cond.selects RX1 yX1_reach yX1_reach, Cond.code yX1_reach cX1_reach 5 none, Cond.fieldLink RX1 17 "PaintedDie$Search" "queue" "[I", Cond.instanceMethod yX1_spread]
def wsX3_waysToLie_r2 : List Cond := [Cond.selects RX1 yX1_spread yX1_spread, Cond.code yX1_spread cX1_spread 8 none, Cond.methodLink RX1 30 yX1_rollsAt, Cond.instanceMethod yX1_rollsAt, Cond.selects RX1 yX1_rollsAt yX1_rollsAt, Cond.code yX1_rollsAt cX1_rollsAt 4 (some .int), Cond.instanceMethod yX0_nextCell, Cond.initialized RX0, Cond.selects RX0 yX0_nextCell yX0_nextCell, Cond.code yX0_nextCell cX0_nextCell 5 (some .int), Cond.methodLink RX0 34 yX0_columnOf, Cond.static yX0_columnOf, Cond.code yX0_columnOf cX0_columnOf 1 (some .int), Cond.methodLink RX0 38 yX0_rowOf, Cond.static yX0_rowOf, Cond.code yX0_rowOf cX0_rowOf 1 (some .int), Cond.methodLink RX0 41 yX0_isFree, Cond.instanceMethod yX0_isFree, Cond.selects RX0 yX0_isFree yX0_isFree, Cond.code yX0_isFree cX0_isFree 3 (some .boolean), Cond.fieldLink RX0 9 "PaintedDie$Board" "isWalled" "[Z", Cond.methodLink RX0 26 yX0_has, Cond.instanceMethod yX0_has, Cond.selects RX0 yX0_has yX0_has]
def wsX3_waysToLie_r3 : List Cond := [Cond.code yX0_has cX0_has 3 (some .boolean), Cond.fieldLink RX0 19 "PaintedDie$Board" "width" "I", Cond.fieldLink RX0 23 "PaintedDie$Board" "height" "I", Cond.methodLink RX0 30 yX0_cellAt, Cond.static yX0_cellAt, Cond.code yX0_cellAt cX0_cellAt 2 (some .int), Cond.static yX2_behindRoll, Cond.initialized RX2, Cond.code yX2_behindRoll cX2_behindRoll 4 (some .int), Cond.methodLink RX2 9 yX2_topOf, Cond.static yX2_topOf, Cond.code yX2_topOf cX2_topOf 1 (some .int), Cond.methodLink RX2 15 yX2_northOf, Cond.static yX2_northOf, Cond.code yX2_northOf cX2_northOf 1 (some .int), Cond.methodLink RX2 24 yX2_with, Cond.static yX2_with, Cond.code yX2_with cX2_with 2 (some .int), Cond.methodLink RX2 21 yX2_eastOf, Cond.static yX2_eastOf, Cond.code yX2_eastOf cX2_eastOf 5 (some .int), Cond.methodLink RX2 18 yX2_axisOf, Cond.static yX2_axisOf, Cond.code yX2_axisOf cX2_axisOf 1 (some .int)]
def wsX3_waysToLie_r4 : List Cond := [Cond.methodLink RX1 42 yX1_reach]
def wsX3_waysToLie : List Cond := .code yX3_waysToLie cX3_waysToLie 1 (some .int) :: ((wsX3_waysToLie_r1 ++ (wsX3_waysToLie_r2 ++ (wsX3_waysToLie_r3 ++ wsX3_waysToLie_r4))) ++ wsX30 ++ wsX10 ++ wsX00)
def wsX3_isShutIn_r1 : List Cond := [Cond.fieldLink RX3 12 "PaintedDie" "board" "LPaintedDie$Board;", Cond.fieldLink RX3 52 "PaintedDie" "cell" "I", Cond.instanceMethod yX0_nextCell, Cond.initialized RX0, Cond.selects RX0 yX0_nextCell yX0_nextCell, Cond.code yX0_nextCell cX0_nextCell 5 (some .int), Cond.methodLink RX0 34 yX0_columnOf, Cond.static yX0_columnOf, Cond.code yX0_columnOf cX0_columnOf 1 (some .int), Cond.methodLink RX0 38 yX0_rowOf, Cond.static yX0_rowOf, Cond.code yX0_rowOf cX0_rowOf 1 (some .int), Cond.methodLink RX0 41 yX0_isFree, Cond.instanceMethod yX0_isFree, Cond.selects RX0 yX0_isFree yX0_isFree, Cond.code yX0_isFree cX0_isFree 3 (some .boolean), Cond.fieldLink RX0 9 "PaintedDie$Board" "isWalled" "[Z", Cond.methodLink RX0 26 yX0_has, Cond.instanceMethod yX0_has, Cond.selects RX0 yX0_has yX0_has, Cond.code yX0_has cX0_has 3 (some .boolean), Cond.fieldLink RX0 19 "PaintedDie$Board" "width" "I", Cond.fieldLink RX0 23 "PaintedDie$Board" "height" "I", Cond.methodLink RX0 30 yX0_cellAt]
def wsX3_isShutIn_r2 : List Cond := [Cond.static yX0_cellAt, Cond.code yX0_cellAt cX0_cellAt 2 (some .int)]
def wsX3_isShutIn : List Cond := .code yX3_isShutIn cX3_isShutIn 2 (some .boolean) :: ((wsX3_isShutIn_r1 ++ wsX3_isShutIn_r2) ++ wsX30 ++ wsX00)
def wsX3_cellsBehind_r1 : List Cond := [Cond.classLink RX3 38 "java/lang/IllegalArgumentException", Cond.initialized "java/lang/IllegalArgumentException", Cond.fieldLink RX3 19 "PaintedDie" "search" "LPaintedDie$Search;", Cond.methodLink RX3 182 yX3_isShutIn, Cond.instanceMethod yX3_isShutIn, Cond.selects RX3 yX3_isShutIn yX3_isShutIn, Cond.initialized RX3, Cond.code yX3_isShutIn cX3_isShutIn 2 (some .boolean), Cond.fieldLink RX3 12 "PaintedDie" "board" "LPaintedDie$Board;", Cond.fieldLink RX3 52 "PaintedDie" "cell" "I", Cond.instanceMethod yX0_nextCell, Cond.initialized RX0, Cond.selects RX0 yX0_nextCell yX0_nextCell, Cond.code yX0_nextCell cX0_nextCell 5 (some .int), Cond.methodLink RX0 34 yX0_columnOf, Cond.static yX0_columnOf, Cond.code yX0_columnOf cX0_columnOf 1 (some .int), Cond.methodLink RX0 38 yX0_rowOf, Cond.static yX0_rowOf, Cond.code yX0_rowOf cX0_rowOf 1 (some .int), Cond.methodLink RX0 41 yX0_isFree, Cond.instanceMethod yX0_isFree, Cond.selects RX0 yX0_isFree yX0_isFree, Cond.code yX0_isFree cX0_isFree 3 (some .boolean)]
def wsX3_cellsBehind_r2 : List Cond := [Cond.fieldLink RX0 9 "PaintedDie$Board" "isWalled" "[Z", Cond.methodLink RX0 26 yX0_has, Cond.instanceMethod yX0_has, Cond.selects RX0 yX0_has yX0_has, Cond.code yX0_has cX0_has 3 (some .boolean), Cond.fieldLink RX0 19 "PaintedDie$Board" "width" "I", Cond.fieldLink RX0 23 "PaintedDie$Board" "height" "I", Cond.methodLink RX0 30 yX0_cellAt, Cond.static yX0_cellAt, Cond.code yX0_cellAt cX0_cellAt 2 (some .int), Cond.methodLink RX3 156 yX3_searchFromHere, Cond.instanceMethod yX3_searchFromHere, Cond.selects RX3 yX3_searchFromHere yX3_searchFromHere, Cond.code yX3_searchFromHere cX3_searchFromHere 1 none, Cond.fieldLink RX3 96 "PaintedDie" "turn" "I", Cond.instanceMethod yX1_forget, Cond.initialized RX1, Cond.selects RX1 yX1_forget yX1_forget, Cond.code yX1_forget cX1_forget 1 none, Cond.fieldLink RX1 11 "PaintedDie$Search" "fewest" "[I", Cond.fieldLink RX1 26 "PaintedDie$Search" "found" "I", Cond.methodLink RX1 20 yJ7_fill_53178, Cond.static yJ7_fill_53178, Cond.initialized RJ7]
def wsX3_cellsBehind_r3 : List Cond := [Cond.code yJ7_fill_53178 cJ7_fill_53178 4 none, Cond.instanceMethod yX1_reach, Cond.selects RX1 yX1_reach yX1_reach, Cond.code yX1_reach cX1_reach 5 none, Cond.fieldLink RX1 17 "PaintedDie$Search" "queue" "[I", Cond.instanceMethod yX1_spread, Cond.selects RX1 yX1_spread yX1_spread, Cond.code yX1_spread cX1_spread 8 none, Cond.methodLink RX1 30 yX1_rollsAt, Cond.instanceMethod yX1_rollsAt, Cond.selects RX1 yX1_rollsAt yX1_rollsAt, Cond.code yX1_rollsAt cX1_rollsAt 4 (some .int), Cond.static yX2_behindRoll, Cond.initialized RX2, Cond.code yX2_behindRoll cX2_behindRoll 4 (some .int), Cond.methodLink RX2 9 yX2_topOf, Cond.static yX2_topOf, Cond.code yX2_topOf cX2_topOf 1 (some .int), Cond.methodLink RX2 15 yX2_northOf, Cond.static yX2_northOf, Cond.code yX2_northOf cX2_northOf 1 (some .int), Cond.methodLink RX2 24 yX2_with, Cond.static yX2_with, Cond.code yX2_with cX2_with 2 (some .int)]
def wsX3_cellsBehind_r4 : List Cond := [Cond.methodLink RX2 21 yX2_eastOf, Cond.static yX2_eastOf, Cond.code yX2_eastOf cX2_eastOf 5 (some .int), Cond.methodLink RX2 18 yX2_axisOf, Cond.static yX2_axisOf, Cond.code yX2_axisOf cX2_axisOf 1 (some .int), Cond.methodLink RX1 42 yX1_reach, Cond.instanceMethod yX1_fewestTo, Cond.selects RX1 yX1_fewestTo yX1_fewestTo, Cond.code yX1_fewestTo cX1_fewestTo 4 (some .int), Cond.methodLink RX1 52 yX1_fewestWithTop, Cond.instanceMethod yX1_fewestWithTop, Cond.selects RX1 yX1_fewestWithTop yX1_fewestWithTop, Cond.code yX1_fewestWithTop cX1_fewestWithTop 5 (some .int), Cond.methodLink RX1 49 yX1_fewerOf, Cond.static yX1_fewerOf, Cond.code yX1_fewerOf cX1_fewerOf 2 (some .int), Cond.methodLink RX1 55 Lib.Math.min.name, Cond.static Lib.Math.min.name, Cond.initialized "java/lang/Math", Cond.code Lib.Math.min.name Lib.Math.min.code 2 (some .int)]
def wsX3_cellsBehind : List Cond := .code yX3_cellsBehind cX3_cellsBehind 5 (some .int) :: ((wsX3_cellsBehind_r1 ++ (wsX3_cellsBehind_r2 ++ (wsX3_cellsBehind_r3 ++ wsX3_cellsBehind_r4))) ++ wsX30 ++ wsX00 ++ wsX10 ++ (vx_atS RX3 42 "java/lang/IllegalArgumentException" ["java/lang/RuntimeException", "java/lang/Exception"]).filter goodWord)
def wsX3_bestPut_r1 : List Cond := [Cond.fieldLink RX3 52 "PaintedDie" "cell" "I", Cond.fieldLink RX3 12 "PaintedDie" "board" "LPaintedDie$Board;", Cond.fieldLink RX3 19 "PaintedDie" "search" "LPaintedDie$Search;", Cond.methodLink RX3 64 yX3_checkFace, Cond.static yX3_checkFace, Cond.initialized RX3, Cond.code yX3_checkFace cX3_checkFace 1 none, Cond.classLink RX3 148 "java/lang/IndexOutOfBoundsException", Cond.initialized "java/lang/IndexOutOfBoundsException", Cond.methodLink RX3 219 yX3_isFace, Cond.static yX3_isFace, Cond.code yX3_isFace cX3_isFace 1 (some .boolean), Cond.methodLink RX3 165 yX3_searchBackFrom, Cond.instanceMethod yX3_searchBackFrom, Cond.selects RX3 yX3_searchBackFrom yX3_searchBackFrom, Cond.code yX3_searchBackFrom cX3_searchBackFrom 4 none, Cond.instanceMethod yX1_forget, Cond.initialized RX1, Cond.selects RX1 yX1_forget yX1_forget, Cond.code yX1_forget cX1_forget 1 none, Cond.fieldLink RX1 11 "PaintedDie$Search" "fewest" "[I", Cond.fieldLink RX1 26 "PaintedDie$Search" "found" "I", Cond.methodLink RX1 20 yJ7_fill_53178, Cond.static yJ7_fill_53178]
def wsX3_bestPut_r2 : List Cond := [Cond.initialized RJ7, Cond.code yJ7_fill_53178 cJ7_fill_53178 4 none, Cond.instanceMethod yX0_isFreeCell, Cond.initialized RX0, Cond.selects RX0 yX0_isFreeCell yX0_isFreeCell, Cond.code yX0_isFreeCell cX0_isFreeCell 2 (some .boolean), Cond.methodLink RX0 34 yX0_columnOf, Cond.static yX0_columnOf, Cond.code yX0_columnOf cX0_columnOf 1 (some .int), Cond.methodLink RX0 38 yX0_rowOf, Cond.static yX0_rowOf, Cond.code yX0_rowOf cX0_rowOf 1 (some .int), Cond.methodLink RX0 41 yX0_isFree, Cond.instanceMethod yX0_isFree, Cond.selects RX0 yX0_isFree yX0_isFree, Cond.code yX0_isFree cX0_isFree 3 (some .boolean), Cond.fieldLink RX0 9 "PaintedDie$Board" "isWalled" "[Z", Cond.methodLink RX0 26 yX0_has, Cond.instanceMethod yX0_has, Cond.selects RX0 yX0_has yX0_has, Cond.code yX0_has cX0_has 3 (some .boolean), Cond.fieldLink RX0 19 "PaintedDie$Board" "width" "I", Cond.fieldLink RX0 23 "PaintedDie$Board" "height" "I", Cond.methodLink RX0 30 yX0_cellAt]
def wsX3_bestPut_r3 : List Cond := [Cond.static yX0_cellAt, Cond.code yX0_cellAt cX0_cellAt 2 (some .int), Cond.static yX2_with, Cond.initialized RX2, Cond.code yX2_with cX2_with 2 (some .int), Cond.instanceMethod yX1_reach, Cond.selects RX1 yX1_reach yX1_reach, Cond.code yX1_reach cX1_reach 5 none, Cond.fieldLink RX1 17 "PaintedDie$Search" "queue" "[I", Cond.instanceMethod yX1_spread, Cond.selects RX1 yX1_spread yX1_spread, Cond.code yX1_spread cX1_spread 8 none, Cond.methodLink RX1 30 yX1_rollsAt, Cond.instanceMethod yX1_rollsAt, Cond.selects RX1 yX1_rollsAt yX1_rollsAt, Cond.code yX1_rollsAt cX1_rollsAt 4 (some .int), Cond.instanceMethod yX0_nextCell, Cond.selects RX0 yX0_nextCell yX0_nextCell, Cond.code yX0_nextCell cX0_nextCell 5 (some .int), Cond.static yX2_behindRoll, Cond.code yX2_behindRoll cX2_behindRoll 4 (some .int), Cond.methodLink RX2 9 yX2_topOf, Cond.static yX2_topOf, Cond.code yX2_topOf cX2_topOf 1 (some .int)]
def wsX3_bestPut_r4 : List Cond := [Cond.methodLink RX2 15 yX2_northOf, Cond.static yX2_northOf, Cond.code yX2_northOf cX2_northOf 1 (some .int), Cond.methodLink RX2 24 yX2_with, Cond.methodLink RX2 21 yX2_eastOf, Cond.static yX2_eastOf, Cond.code yX2_eastOf cX2_eastOf 5 (some .int), Cond.methodLink RX2 18 yX2_axisOf, Cond.static yX2_axisOf, Cond.code yX2_axisOf cX2_axisOf 1 (some .int), Cond.methodLink RX1 42 yX1_reach]
def wsX3_bestPut : List Cond := .code yX3_bestPut cX3_bestPut 7 (some .int) :: ((wsX3_bestPut_r1 ++ (wsX3_bestPut_r2 ++ (wsX3_bestPut_r3 ++ wsX3_bestPut_r4))) ++ wsX30 ++ wsX00 ++ wsX10 ++ (vx_atS RX3 152 "java/lang/IndexOutOfBoundsException" ["java/lang/RuntimeException", "java/lang/Exception"]).filter goodWord)
def wsX3_meanPaint : List Cond := .code yX3_meanPaint cX3_meanPaint 3 (some .double) :: ([.fieldLink RX3 27 "PaintedDie" "paints" "[I", .constantDouble RX3 186 (4618441417868443648)] ++ wsX30)
def wsX3_joined : List Cond := .code yX3_joined cX3_joined 3 (some .long) :: ([.constantLong RX3 211 (31)])
def wsX3_joinedWithCells_r1 : List Cond := [Cond.fieldLink RX3 12 "PaintedDie" "board" "LPaintedDie$Board;", Cond.fieldLink RX3 19 "PaintedDie" "search" "LPaintedDie$Search;", Cond.methodLink RX3 156 yX3_searchFromHere, Cond.instanceMethod yX3_searchFromHere, Cond.selects RX3 yX3_searchFromHere yX3_searchFromHere, Cond.initialized RX3, Cond.code yX3_searchFromHere cX3_searchFromHere 1 none, Cond.fieldLink RX3 52 "PaintedDie" "cell" "I", Cond.fieldLink RX3 96 "PaintedDie" "turn" "I", Cond.instanceMethod yX1_forget, Cond.initialized RX1, Cond.selects RX1 yX1_forget yX1_forget, Cond.code yX1_forget cX1_forget 1 none, Cond.fieldLink RX1 11 "PaintedDie$Search" "fewest" "[I", Cond.fieldLink RX1 26 "PaintedDie$Search" "found" "I", Cond.methodLink RX1 20 yJ7_fill_53178, Cond.static yJ7_fill_53178, Cond.initialized RJ7, Cond.code yJ7_fill_53178 cJ7_fill_53178 4 none, Cond.instanceMethod yX1_reach, Cond.selects RX1 yX1_reach yX1_reach, Cond.code yX1_reach cX1_reach 5 none, Cond.fieldLink RX1 17 "PaintedDie$Search" "queue" "[I", Cond.instanceMethod yX1_spread]
def wsX3_joinedWithCells_r2 : List Cond := [Cond.selects RX1 yX1_spread yX1_spread, Cond.code yX1_spread cX1_spread 8 none, Cond.methodLink RX1 30 yX1_rollsAt, Cond.instanceMethod yX1_rollsAt, Cond.selects RX1 yX1_rollsAt yX1_rollsAt, Cond.code yX1_rollsAt cX1_rollsAt 4 (some .int), Cond.instanceMethod yX0_nextCell, Cond.initialized RX0, Cond.selects RX0 yX0_nextCell yX0_nextCell, Cond.code yX0_nextCell cX0_nextCell 5 (some .int), Cond.methodLink RX0 34 yX0_columnOf, Cond.static yX0_columnOf, Cond.code yX0_columnOf cX0_columnOf 1 (some .int), Cond.methodLink RX0 38 yX0_rowOf, Cond.static yX0_rowOf, Cond.code yX0_rowOf cX0_rowOf 1 (some .int), Cond.methodLink RX0 41 yX0_isFree, Cond.instanceMethod yX0_isFree, Cond.selects RX0 yX0_isFree yX0_isFree, Cond.code yX0_isFree cX0_isFree 3 (some .boolean), Cond.fieldLink RX0 9 "PaintedDie$Board" "isWalled" "[Z", Cond.methodLink RX0 26 yX0_has, Cond.instanceMethod yX0_has, Cond.selects RX0 yX0_has yX0_has]
def wsX3_joinedWithCells_r3 : List Cond := [Cond.code yX0_has cX0_has 3 (some .boolean), Cond.fieldLink RX0 19 "PaintedDie$Board" "width" "I", Cond.fieldLink RX0 23 "PaintedDie$Board" "height" "I", Cond.methodLink RX0 30 yX0_cellAt, Cond.static yX0_cellAt, Cond.code yX0_cellAt cX0_cellAt 2 (some .int), Cond.static yX2_behindRoll, Cond.initialized RX2, Cond.code yX2_behindRoll cX2_behindRoll 4 (some .int), Cond.methodLink RX2 9 yX2_topOf, Cond.static yX2_topOf, Cond.code yX2_topOf cX2_topOf 1 (some .int), Cond.methodLink RX2 15 yX2_northOf, Cond.static yX2_northOf, Cond.code yX2_northOf cX2_northOf 1 (some .int), Cond.methodLink RX2 24 yX2_with, Cond.static yX2_with, Cond.code yX2_with cX2_with 2 (some .int), Cond.methodLink RX2 21 yX2_eastOf, Cond.static yX2_eastOf, Cond.code yX2_eastOf cX2_eastOf 5 (some .int), Cond.methodLink RX2 18 yX2_axisOf, Cond.static yX2_axisOf, Cond.code yX2_axisOf cX2_axisOf 1 (some .int)]
def wsX3_joinedWithCells_r4 : List Cond := [Cond.methodLink RX1 42 yX1_reach, Cond.methodLink RX3 192 yX3_joined, Cond.static yX3_joined, Cond.code yX3_joined cX3_joined 3 (some .long), Cond.constantLong RX3 211 (31), Cond.instanceMethod yX0_printOn, Cond.selects RX0 yX0_printOn yX0_printOn, Cond.code yX0_printOn cX0_printOn 3 (some .int), Cond.fieldLink RX0 15 "PaintedDie$Board" "printed" "[I", Cond.instanceMethod yX1_fewestTo, Cond.selects RX1 yX1_fewestTo yX1_fewestTo, Cond.code yX1_fewestTo cX1_fewestTo 4 (some .int), Cond.methodLink RX1 52 yX1_fewestWithTop, Cond.instanceMethod yX1_fewestWithTop, Cond.selects RX1 yX1_fewestWithTop yX1_fewestWithTop, Cond.code yX1_fewestWithTop cX1_fewestWithTop 5 (some .int), Cond.methodLink RX1 49 yX1_fewerOf, Cond.static yX1_fewerOf, Cond.code yX1_fewerOf cX1_fewerOf 2 (some .int), Cond.methodLink RX1 55 Lib.Math.min.name, Cond.static Lib.Math.min.name, Cond.initialized "java/lang/Math", Cond.code Lib.Math.min.name Lib.Math.min.code 2 (some .int), Cond.instanceMethod yX1_countTops]
def wsX3_joinedWithCells_r5 : List Cond := [Cond.selects RX1 yX1_countTops yX1_countTops, Cond.code yX1_countTops cX1_countTops 4 (some .int)]
def wsX3_joinedWithCells : List Cond := .code yX3_joinedWithCells cX3_joinedWithCells 8 (some .long) :: ((wsX3_joinedWithCells_r1 ++ (wsX3_joinedWithCells_r2 ++ (wsX3_joinedWithCells_r3 ++ (wsX3_joinedWithCells_r4 ++ wsX3_joinedWithCells_r5)))) ++ wsX30 ++ wsX00 ++ wsX10)
def wsX3_digest_r1 : List Cond := [Cond.constantLong RX3 188 (1901), Cond.fieldLink RX3 96 "PaintedDie" "turn" "I", Cond.fieldLink RX3 23 "PaintedDie" "colours" "[I", Cond.fieldLink RX3 27 "PaintedDie" "paints" "[I", Cond.methodLink RX3 190 yX3_width, Cond.instanceMethod yX3_width, Cond.selects RX3 yX3_width yX3_width, Cond.initialized RX3, Cond.code yX3_width cX3_width 1 (some .int), Cond.fieldLink RX3 12 "PaintedDie" "board" "LPaintedDie$Board;", Cond.methodLink RX3 192 yX3_joined, Cond.static yX3_joined, Cond.code yX3_joined cX3_joined 3 (some .long), Cond.constantLong RX3 211 (31), Cond.methodLink RX3 196 yX3_height, Cond.instanceMethod yX3_height, Cond.selects RX3 yX3_height yX3_height, Cond.code yX3_height cX3_height 1 (some .int), Cond.methodLink RX3 198 yX3_walls, Cond.instanceMethod yX3_walls, Cond.selects RX3 yX3_walls yX3_walls, Cond.code yX3_walls cX3_walls 1 (some .int), Cond.instanceMethod yX0_countWalls, Cond.initialized RX0]
def wsX3_digest_r2 : List Cond := [Cond.selects RX0 yX0_countWalls yX0_countWalls, Cond.code yX0_countWalls cX0_countWalls 3 (some .int), Cond.fieldLink RX0 9 "PaintedDie$Board" "isWalled" "[Z", Cond.methodLink RX3 201 yX3_rolls, Cond.instanceMethod yX3_rolls, Cond.selects RX3 yX3_rolls yX3_rolls, Cond.code yX3_rolls cX3_rolls 1 (some .int), Cond.fieldLink RX3 142 "PaintedDie" "rollsMade" "I", Cond.methodLink RX3 204 yX3_prints, Cond.instanceMethod yX3_prints, Cond.selects RX3 yX3_prints yX3_prints, Cond.code yX3_prints cX3_prints 1 (some .int), Cond.fieldLink RX3 145 "PaintedDie" "printsMade" "I", Cond.methodLink RX3 83 yX3_column, Cond.instanceMethod yX3_column, Cond.selects RX3 yX3_column yX3_column, Cond.code yX3_column cX3_column 1 (some .int), Cond.fieldLink RX3 52 "PaintedDie" "cell" "I", Cond.static yX0_columnOf, Cond.code yX0_columnOf cX0_columnOf 1 (some .int), Cond.methodLink RX3 91 yX3_row, Cond.instanceMethod yX3_row, Cond.selects RX3 yX3_row yX3_row, Cond.code yX3_row cX3_row 1 (some .int)]
def wsX3_digest_r3 : List Cond := [Cond.static yX0_rowOf, Cond.code yX0_rowOf cX0_rowOf 1 (some .int), Cond.methodLink RX3 121 yX3_top, Cond.instanceMethod yX3_top, Cond.selects RX3 yX3_top yX3_top, Cond.code yX3_top cX3_top 1 (some .int), Cond.static yX2_topOf, Cond.initialized RX2, Cond.code yX2_topOf cX2_topOf 1 (some .int), Cond.methodLink RX3 107 yX3_bottom, Cond.instanceMethod yX3_bottom, Cond.selects RX3 yX3_bottom yX3_bottom, Cond.code yX3_bottom cX3_bottom 1 (some .int), Cond.static yX2_faceOn, Cond.code yX2_faceOn cX2_faceOn 2 (some .int), Cond.methodLink RX2 15 yX2_northOf, Cond.static yX2_northOf, Cond.code yX2_northOf cX2_northOf 1 (some .int), Cond.methodLink RX2 21 yX2_eastOf, Cond.static yX2_eastOf, Cond.code yX2_eastOf cX2_eastOf 5 (some .int), Cond.methodLink RX2 9 yX2_topOf, Cond.methodLink RX2 18 yX2_axisOf, Cond.static yX2_axisOf]
def wsX3_digest_r4 : List Cond := [Cond.code yX2_axisOf cX2_axisOf 1 (some .int), Cond.methodLink RX3 207 yX3_joinedWithCells, Cond.instanceMethod yX3_joinedWithCells, Cond.selects RX3 yX3_joinedWithCells yX3_joinedWithCells, Cond.code yX3_joinedWithCells cX3_joinedWithCells 8 (some .long), Cond.fieldLink RX3 19 "PaintedDie" "search" "LPaintedDie$Search;", Cond.methodLink RX3 156 yX3_searchFromHere, Cond.instanceMethod yX3_searchFromHere, Cond.selects RX3 yX3_searchFromHere yX3_searchFromHere, Cond.code yX3_searchFromHere cX3_searchFromHere 1 none, Cond.instanceMethod yX1_forget, Cond.initialized RX1, Cond.selects RX1 yX1_forget yX1_forget, Cond.code yX1_forget cX1_forget 1 none, Cond.fieldLink RX1 11 "PaintedDie$Search" "fewest" "[I", Cond.fieldLink RX1 26 "PaintedDie$Search" "found" "I", Cond.methodLink RX1 20 yJ7_fill_53178, Cond.static yJ7_fill_53178, Cond.initialized RJ7, Cond.code yJ7_fill_53178 cJ7_fill_53178 4 none, Cond.instanceMethod yX1_reach, Cond.selects RX1 yX1_reach yX1_reach, Cond.code yX1_reach cX1_reach 5 none, Cond.fieldLink RX1 17 "PaintedDie$Search" "queue" "[I"]
def wsX3_digest_r5 : List Cond := [Cond.instanceMethod yX1_spread, Cond.selects RX1 yX1_spread yX1_spread, Cond.code yX1_spread cX1_spread 8 none, Cond.methodLink RX1 30 yX1_rollsAt, Cond.instanceMethod yX1_rollsAt, Cond.selects RX1 yX1_rollsAt yX1_rollsAt, Cond.code yX1_rollsAt cX1_rollsAt 4 (some .int), Cond.instanceMethod yX0_nextCell, Cond.selects RX0 yX0_nextCell yX0_nextCell, Cond.code yX0_nextCell cX0_nextCell 5 (some .int), Cond.methodLink RX0 34 yX0_columnOf, Cond.methodLink RX0 38 yX0_rowOf, Cond.methodLink RX0 41 yX0_isFree, Cond.instanceMethod yX0_isFree, Cond.selects RX0 yX0_isFree yX0_isFree, Cond.code yX0_isFree cX0_isFree 3 (some .boolean), Cond.methodLink RX0 26 yX0_has, Cond.instanceMethod yX0_has, Cond.selects RX0 yX0_has yX0_has, Cond.code yX0_has cX0_has 3 (some .boolean), Cond.fieldLink RX0 19 "PaintedDie$Board" "width" "I", Cond.fieldLink RX0 23 "PaintedDie$Board" "height" "I", Cond.methodLink RX0 30 yX0_cellAt, Cond.static yX0_cellAt]
def wsX3_digest_r6 : List Cond := [Cond.code yX0_cellAt cX0_cellAt 2 (some .int), Cond.static yX2_behindRoll, Cond.code yX2_behindRoll cX2_behindRoll 4 (some .int), Cond.methodLink RX2 24 yX2_with, Cond.static yX2_with, Cond.code yX2_with cX2_with 2 (some .int), Cond.methodLink RX1 42 yX1_reach, Cond.instanceMethod yX0_printOn, Cond.selects RX0 yX0_printOn yX0_printOn, Cond.code yX0_printOn cX0_printOn 3 (some .int), Cond.fieldLink RX0 15 "PaintedDie$Board" "printed" "[I", Cond.instanceMethod yX1_fewestTo, Cond.selects RX1 yX1_fewestTo yX1_fewestTo, Cond.code yX1_fewestTo cX1_fewestTo 4 (some .int), Cond.methodLink RX1 52 yX1_fewestWithTop, Cond.instanceMethod yX1_fewestWithTop, Cond.selects RX1 yX1_fewestWithTop yX1_fewestWithTop, Cond.code yX1_fewestWithTop cX1_fewestWithTop 5 (some .int), Cond.methodLink RX1 49 yX1_fewerOf, Cond.static yX1_fewerOf, Cond.code yX1_fewerOf cX1_fewerOf 2 (some .int), Cond.methodLink RX1 55 Lib.Math.min.name, Cond.static Lib.Math.min.name, Cond.initialized "java/lang/Math"]
def wsX3_digest_r7 : List Cond := [Cond.code Lib.Math.min.name Lib.Math.min.code 2 (some .int), Cond.instanceMethod yX1_countTops, Cond.selects RX1 yX1_countTops yX1_countTops, Cond.code yX1_countTops cX1_countTops 4 (some .int)]
def wsX3_digest : List Cond := .code yX3_digest cX3_digest 4 (some .long) :: ((wsX3_digest_r1 ++ (wsX3_digest_r2 ++ (wsX3_digest_r3 ++ (wsX3_digest_r4 ++ (wsX3_digest_r5 ++ (wsX3_digest_r6 ++ wsX3_digest_r7)))))) ++ wsX30 ++ wsX00 ++ wsX10)
def wsX4_turnAsAtFirst : List Cond := .code yX4_turnAsAtFirst cX4_turnAsAtFirst 1 none :: ([.fieldLink RX4 62 "PaintedDieModel" "top" "I", .fieldLink RX4 65 "PaintedDieModel" "north" "I", .fieldLink RX4 68 "PaintedDieModel" "east" "I"] ++ wsX40)
def wsX4_take : List Cond := .code yX4_take cX4_take 4 none :: ([.fieldLink RX4 52 "PaintedDieModel" "w" "I", .fieldLink RX4 59 "PaintedDieModel" "h" "I", .fieldLink RX4 71 "PaintedDieModel" "rolls" "I", .fieldLink RX4 74 "PaintedDieModel" "prints" "I", .fieldLink RX4 77 "PaintedDieModel" "cell" "I", .fieldLink RX4 9 "PaintedDieModel" "isWall" "[Z", .fieldLink RX4 13 "PaintedDieModel" "print" "[I", .methodLink RX4 80 yX4_turnAsAtFirst, .instanceMethod yX4_turnAsAtFirst, .selects RX4 yX4_turnAsAtFirst yX4_turnAsAtFirst, .initialized RX4, .code yX4_turnAsAtFirst cX4_turnAsAtFirst 1 none, .fieldLink RX4 62 "PaintedDieModel" "top" "I", .fieldLink RX4 65 "PaintedDieModel" "north" "I", .fieldLink RX4 68 "PaintedDieModel" "east" "I"] ++ wsX40)
def wsX4_init_r1 : List Cond := [Cond.methodLink RX4 1 objectInit, Cond.instanceMethod objectInit, Cond.code objectInit ⟨#[0xb1]⟩ 1 none, Cond.arrayClass .boolean, Cond.fieldLink RX4 9 "PaintedDieModel" "isWall" "[Z", Cond.arrayClass .int, Cond.fieldLink RX4 13 "PaintedDieModel" "print" "[I", Cond.fieldLink RX4 17 "PaintedDieModel" "colour" "[I", Cond.fieldLink RX4 20 "PaintedDieModel" "paint" "[I", Cond.fieldLink RX4 23 "PaintedDieModel" "far" "[I", Cond.fieldLink RX4 26 "PaintedDieModel" "cells" "[I", Cond.fieldLink RX4 29 "PaintedDieModel" "tops" "[I", Cond.fieldLink RX4 32 "PaintedDieModel" "norths" "[I", Cond.fieldLink RX4 35 "PaintedDieModel" "easts" "[I", Cond.fieldLink RX4 38 "PaintedDieModel" "isOn" "[Z", Cond.fieldLink RX4 41 "PaintedDieModel" "isNext" "[Z", Cond.methodLink RX4 44 yX4_take, Cond.instanceMethod yX4_take, Cond.selects RX4 yX4_take yX4_take, Cond.initialized RX4, Cond.code yX4_take cX4_take 4 none, Cond.fieldLink RX4 52 "PaintedDieModel" "w" "I", Cond.fieldLink RX4 59 "PaintedDieModel" "h" "I", Cond.fieldLink RX4 71 "PaintedDieModel" "rolls" "I"]
def wsX4_init_r2 : List Cond := [Cond.fieldLink RX4 74 "PaintedDieModel" "prints" "I", Cond.fieldLink RX4 77 "PaintedDieModel" "cell" "I", Cond.methodLink RX4 80 yX4_turnAsAtFirst, Cond.instanceMethod yX4_turnAsAtFirst, Cond.selects RX4 yX4_turnAsAtFirst yX4_turnAsAtFirst, Cond.code yX4_turnAsAtFirst cX4_turnAsAtFirst 1 none, Cond.fieldLink RX4 62 "PaintedDieModel" "top" "I", Cond.fieldLink RX4 65 "PaintedDieModel" "north" "I", Cond.fieldLink RX4 68 "PaintedDieModel" "east" "I"]
def wsX4_init : List Cond := .code yX4_init cX4_init 2 none :: ((wsX4_init_r1 ++ wsX4_init_r2) ++ wsX40)
def wsX4_thrown : List Cond := .code yX4_thrown cX4_thrown 1 (some .int) :: ([.fieldLink RX4 48 "PaintedDieModel" "thrown" "I"] ++ wsX40)
def wsX4_no : List Cond := .code yX4_no cX4_no 2 (some .int) :: ([.fieldLink RX4 48 "PaintedDieModel" "thrown" "I"] ++ wsX40)
def wsX4_isNot : List Cond := .code yX4_isNot cX4_isNot 2 (some .boolean) :: ([.fieldLink RX4 48 "PaintedDieModel" "thrown" "I"] ++ wsX40)
def wsX4_isIn : List Cond := .code yX4_isIn cX4_isIn 3 (some .boolean) :: ([])
def wsX4_isCell : List Cond := .code yX4_isCell cX4_isCell 3 (some .boolean) :: ([.fieldLink RX4 52 "PaintedDieModel" "w" "I", .fieldLink RX4 59 "PaintedDieModel" "h" "I", .methodLink RX4 55 yX4_isIn, .static yX4_isIn, .initialized RX4, .code yX4_isIn cX4_isIn 3 (some .boolean)] ++ wsX40)
def wsX4_isFace : List Cond := .code yX4_isFace cX4_isFace 1 (some .boolean) :: ([.methodLink RX4 55 yX4_isIn, .static yX4_isIn, .initialized RX4, .code yX4_isIn cX4_isIn 3 (some .boolean)])
def wsX4_isSide : List Cond := .code yX4_isSide cX4_isSide 1 (some .boolean) :: ([.methodLink RX4 55 yX4_isIn, .static yX4_isIn, .initialized RX4, .code yX4_isIn cX4_isIn 3 (some .boolean)])
def wsX4_beside : List Cond := .code yX4_beside cX4_beside 5 (some .int) :: ([.fieldLink RX4 52 "PaintedDieModel" "w" "I", .fieldLink RX4 9 "PaintedDieModel" "isWall" "[Z", .methodLink RX4 83 yX4_isCell, .instanceMethod yX4_isCell, .selects RX4 yX4_isCell yX4_isCell, .initialized RX4, .code yX4_isCell cX4_isCell 3 (some .boolean), .fieldLink RX4 59 "PaintedDieModel" "h" "I", .methodLink RX4 55 yX4_isIn, .static yX4_isIn, .code yX4_isIn cX4_isIn 3 (some .boolean)] ++ wsX40)
def wsX4_look : List Cond := .code yX4_look cX4_look 1 none :: ([.fieldLink RX4 77 "PaintedDieModel" "cell" "I", .fieldLink RX4 87 "PaintedDieModel" "itsCell" "I", .fieldLink RX4 62 "PaintedDieModel" "top" "I", .fieldLink RX4 90 "PaintedDieModel" "itsTop" "I", .fieldLink RX4 65 "PaintedDieModel" "north" "I", .fieldLink RX4 93 "PaintedDieModel" "itsNorth" "I", .fieldLink RX4 68 "PaintedDieModel" "east" "I", .fieldLink RX4 96 "PaintedDieModel" "itsEast" "I"] ++ wsX40)
def wsX4_lookFirst : List Cond := .code yX4_lookFirst cX4_lookFirst 2 none :: ([.fieldLink RX4 87 "PaintedDieModel" "itsCell" "I", .fieldLink RX4 90 "PaintedDieModel" "itsTop" "I", .fieldLink RX4 93 "PaintedDieModel" "itsNorth" "I", .fieldLink RX4 96 "PaintedDieModel" "itsEast" "I"] ++ wsX40)
def wsX4_lookAt : List Cond := .code yX4_lookAt cX4_lookAt 2 none :: ([.fieldLink RX4 26 "PaintedDieModel" "cells" "[I", .fieldLink RX4 87 "PaintedDieModel" "itsCell" "I", .fieldLink RX4 29 "PaintedDieModel" "tops" "[I", .fieldLink RX4 90 "PaintedDieModel" "itsTop" "I", .fieldLink RX4 32 "PaintedDieModel" "norths" "[I", .fieldLink RX4 93 "PaintedDieModel" "itsNorth" "I", .fieldLink RX4 35 "PaintedDieModel" "easts" "[I", .fieldLink RX4 96 "PaintedDieModel" "itsEast" "I"] ++ wsX40)
def wsX4_tip : List Cond := .code yX4_tip cX4_tip 4 none :: ([.fieldLink RX4 90 "PaintedDieModel" "itsTop" "I", .fieldLink RX4 87 "PaintedDieModel" "itsCell" "I", .fieldLink RX4 93 "PaintedDieModel" "itsNorth" "I", .fieldLink RX4 96 "PaintedDieModel" "itsEast" "I"] ++ wsX40)
def wsX4_rolled_r1 : List Cond := [Cond.fieldLink RX4 77 "PaintedDieModel" "cell" "I", Cond.fieldLink RX4 87 "PaintedDieModel" "itsCell" "I", Cond.fieldLink RX4 90 "PaintedDieModel" "itsTop" "I", Cond.fieldLink RX4 62 "PaintedDieModel" "top" "I", Cond.fieldLink RX4 93 "PaintedDieModel" "itsNorth" "I", Cond.fieldLink RX4 65 "PaintedDieModel" "north" "I", Cond.fieldLink RX4 96 "PaintedDieModel" "itsEast" "I", Cond.fieldLink RX4 68 "PaintedDieModel" "east" "I", Cond.fieldLink RX4 71 "PaintedDieModel" "rolls" "I", Cond.fieldLink RX4 20 "PaintedDieModel" "paint" "[I", Cond.fieldLink RX4 13 "PaintedDieModel" "print" "[I", Cond.fieldLink RX4 17 "PaintedDieModel" "colour" "[I", Cond.fieldLink RX4 74 "PaintedDieModel" "prints" "I", Cond.methodLink RX4 99 yX4_beside, Cond.instanceMethod yX4_beside, Cond.selects RX4 yX4_beside yX4_beside, Cond.initialized RX4, Cond.code yX4_beside cX4_beside 5 (some .int), Cond.fieldLink RX4 52 "PaintedDieModel" "w" "I", Cond.fieldLink RX4 9 "PaintedDieModel" "isWall" "[Z", Cond.methodLink RX4 83 yX4_isCell, Cond.instanceMethod yX4_isCell, Cond.selects RX4 yX4_isCell yX4_isCell, Cond.code yX4_isCell cX4_isCell 3 (some .boolean)]
def wsX4_rolled_r2 : List Cond := [Cond.fieldLink RX4 59 "PaintedDieModel" "h" "I", Cond.methodLink RX4 55 yX4_isIn, Cond.static yX4_isIn, Cond.code yX4_isIn cX4_isIn 3 (some .boolean), Cond.methodLink RX4 103 yX4_look, Cond.instanceMethod yX4_look, Cond.selects RX4 yX4_look yX4_look, Cond.code yX4_look cX4_look 1 none, Cond.methodLink RX4 106 yX4_tip, Cond.instanceMethod yX4_tip, Cond.selects RX4 yX4_tip yX4_tip, Cond.code yX4_tip cX4_tip 4 none]
def wsX4_rolled : List Cond := .code yX4_rolled cX4_rolled 4 (some .boolean) :: ((wsX4_rolled_r1 ++ wsX4_rolled_r2) ++ wsX40)
def wsX4_newBoard_r1 : List Cond := [Cond.fieldLink RX4 48 "PaintedDieModel" "thrown" "I", Cond.fieldLink RX4 52 "PaintedDieModel" "w" "I", Cond.fieldLink RX4 59 "PaintedDieModel" "h" "I", Cond.methodLink RX4 55 yX4_isIn, Cond.static yX4_isIn, Cond.initialized RX4, Cond.code yX4_isIn cX4_isIn 3 (some .boolean), Cond.methodLink RX4 109 yX4_no, Cond.instanceMethod yX4_no, Cond.selects RX4 yX4_no yX4_no, Cond.code yX4_no cX4_no 2 (some .int), Cond.methodLink RX4 44 yX4_take, Cond.instanceMethod yX4_take, Cond.selects RX4 yX4_take yX4_take, Cond.code yX4_take cX4_take 4 none, Cond.fieldLink RX4 71 "PaintedDieModel" "rolls" "I", Cond.fieldLink RX4 74 "PaintedDieModel" "prints" "I", Cond.fieldLink RX4 77 "PaintedDieModel" "cell" "I", Cond.fieldLink RX4 9 "PaintedDieModel" "isWall" "[Z", Cond.fieldLink RX4 13 "PaintedDieModel" "print" "[I", Cond.methodLink RX4 80 yX4_turnAsAtFirst, Cond.instanceMethod yX4_turnAsAtFirst, Cond.selects RX4 yX4_turnAsAtFirst yX4_turnAsAtFirst, Cond.code yX4_turnAsAtFirst cX4_turnAsAtFirst 1 none]
def wsX4_newBoard_r2 : List Cond := [Cond.fieldLink RX4 62 "PaintedDieModel" "top" "I", Cond.fieldLink RX4 65 "PaintedDieModel" "north" "I", Cond.fieldLink RX4 68 "PaintedDieModel" "east" "I"]
def wsX4_newBoard : List Cond := .code yX4_newBoard cX4_newBoard 3 (some .int) :: ((wsX4_newBoard_r1 ++ wsX4_newBoard_r2) ++ wsX40)
def wsX4_turnWall : List Cond := .code yX4_turnWall cX4_turnWall 4 (some .boolean) :: ([.fieldLink RX4 48 "PaintedDieModel" "thrown" "I", .fieldLink RX4 52 "PaintedDieModel" "w" "I", .fieldLink RX4 77 "PaintedDieModel" "cell" "I", .fieldLink RX4 9 "PaintedDieModel" "isWall" "[Z", .methodLink RX4 83 yX4_isCell, .instanceMethod yX4_isCell, .selects RX4 yX4_isCell yX4_isCell, .initialized RX4, .code yX4_isCell cX4_isCell 3 (some .boolean), .fieldLink RX4 59 "PaintedDieModel" "h" "I", .methodLink RX4 55 yX4_isIn, .static yX4_isIn, .code yX4_isIn cX4_isIn 3 (some .boolean), .methodLink RX4 113 yX4_isNot, .instanceMethod yX4_isNot, .selects RX4 yX4_isNot yX4_isNot, .code yX4_isNot cX4_isNot 2 (some .boolean)] ++ wsX40)
def wsX4_setColour : List Cond := .code yX4_setColour cX4_setColour 4 (some .int) :: ([.fieldLink RX4 48 "PaintedDieModel" "thrown" "I", .fieldLink RX4 17 "PaintedDieModel" "colour" "[I", .methodLink RX4 117 yX4_isFace, .static yX4_isFace, .initialized RX4, .code yX4_isFace cX4_isFace 1 (some .boolean), .methodLink RX4 55 yX4_isIn, .static yX4_isIn, .code yX4_isIn cX4_isIn 3 (some .boolean), .methodLink RX4 109 yX4_no, .instanceMethod yX4_no, .selects RX4 yX4_no yX4_no, .code yX4_no cX4_no 2 (some .int)] ++ wsX40)
def wsX4_addPaint : List Cond := .code yX4_addPaint cX4_addPaint 3 (some .int) :: ([.fieldLink RX4 48 "PaintedDieModel" "thrown" "I", .fieldLink RX4 20 "PaintedDieModel" "paint" "[I", .methodLink RX4 120 Lib.Math.min.name, .static Lib.Math.min.name, .initialized "java/lang/Math", .code Lib.Math.min.name Lib.Math.min.code 2 (some .int), .methodLink RX4 117 yX4_isFace, .static yX4_isFace, .initialized RX4, .code yX4_isFace cX4_isFace 1 (some .boolean), .methodLink RX4 55 yX4_isIn, .static yX4_isIn, .code yX4_isIn cX4_isIn 3 (some .boolean), .methodLink RX4 109 yX4_no, .instanceMethod yX4_no, .selects RX4 yX4_no yX4_no, .code yX4_no cX4_no 2 (some .int)] ++ wsX40)
def wsX4_put_r1 : List Cond := [Cond.fieldLink RX4 48 "PaintedDieModel" "thrown" "I", Cond.fieldLink RX4 9 "PaintedDieModel" "isWall" "[Z", Cond.fieldLink RX4 52 "PaintedDieModel" "w" "I", Cond.fieldLink RX4 77 "PaintedDieModel" "cell" "I", Cond.methodLink RX4 125 Lib.Math.abs.name, Cond.static Lib.Math.abs.name, Cond.initialized "java/lang/Math", Cond.code Lib.Math.abs.name Lib.Math.abs.code 1 (some .int), Cond.methodLink RX4 83 yX4_isCell, Cond.instanceMethod yX4_isCell, Cond.selects RX4 yX4_isCell yX4_isCell, Cond.initialized RX4, Cond.code yX4_isCell cX4_isCell 3 (some .boolean), Cond.fieldLink RX4 59 "PaintedDieModel" "h" "I", Cond.methodLink RX4 55 yX4_isIn, Cond.static yX4_isIn, Cond.code yX4_isIn cX4_isIn 3 (some .boolean), Cond.methodLink RX4 109 yX4_no, Cond.instanceMethod yX4_no, Cond.selects RX4 yX4_no yX4_no, Cond.code yX4_no cX4_no 2 (some .int), Cond.methodLink RX4 80 yX4_turnAsAtFirst, Cond.instanceMethod yX4_turnAsAtFirst, Cond.selects RX4 yX4_turnAsAtFirst yX4_turnAsAtFirst]
def wsX4_put_r2 : List Cond := [Cond.code yX4_turnAsAtFirst cX4_turnAsAtFirst 1 none, Cond.fieldLink RX4 62 "PaintedDieModel" "top" "I", Cond.fieldLink RX4 65 "PaintedDieModel" "north" "I", Cond.fieldLink RX4 68 "PaintedDieModel" "east" "I"]
def wsX4_put : List Cond := .code yX4_put cX4_put 4 (some .int) :: ((wsX4_put_r1 ++ wsX4_put_r2) ++ wsX40)
def wsX4_roll_r1 : List Cond := [Cond.fieldLink RX4 48 "PaintedDieModel" "thrown" "I", Cond.fieldLink RX4 62 "PaintedDieModel" "top" "I", Cond.methodLink RX4 128 yX4_isSide, Cond.static yX4_isSide, Cond.initialized RX4, Cond.code yX4_isSide cX4_isSide 1 (some .boolean), Cond.methodLink RX4 55 yX4_isIn, Cond.static yX4_isIn, Cond.code yX4_isIn cX4_isIn 3 (some .boolean), Cond.methodLink RX4 109 yX4_no, Cond.instanceMethod yX4_no, Cond.selects RX4 yX4_no yX4_no, Cond.code yX4_no cX4_no 2 (some .int), Cond.methodLink RX4 131 yX4_rolled, Cond.instanceMethod yX4_rolled, Cond.selects RX4 yX4_rolled yX4_rolled, Cond.code yX4_rolled cX4_rolled 4 (some .boolean), Cond.fieldLink RX4 77 "PaintedDieModel" "cell" "I", Cond.fieldLink RX4 87 "PaintedDieModel" "itsCell" "I", Cond.fieldLink RX4 90 "PaintedDieModel" "itsTop" "I", Cond.fieldLink RX4 93 "PaintedDieModel" "itsNorth" "I", Cond.fieldLink RX4 65 "PaintedDieModel" "north" "I", Cond.fieldLink RX4 96 "PaintedDieModel" "itsEast" "I", Cond.fieldLink RX4 68 "PaintedDieModel" "east" "I"]
def wsX4_roll_r2 : List Cond := [Cond.fieldLink RX4 71 "PaintedDieModel" "rolls" "I", Cond.fieldLink RX4 20 "PaintedDieModel" "paint" "[I", Cond.fieldLink RX4 13 "PaintedDieModel" "print" "[I", Cond.fieldLink RX4 17 "PaintedDieModel" "colour" "[I", Cond.fieldLink RX4 74 "PaintedDieModel" "prints" "I", Cond.methodLink RX4 99 yX4_beside, Cond.instanceMethod yX4_beside, Cond.selects RX4 yX4_beside yX4_beside, Cond.code yX4_beside cX4_beside 5 (some .int), Cond.fieldLink RX4 52 "PaintedDieModel" "w" "I", Cond.fieldLink RX4 9 "PaintedDieModel" "isWall" "[Z", Cond.methodLink RX4 83 yX4_isCell, Cond.instanceMethod yX4_isCell, Cond.selects RX4 yX4_isCell yX4_isCell, Cond.code yX4_isCell cX4_isCell 3 (some .boolean), Cond.fieldLink RX4 59 "PaintedDieModel" "h" "I", Cond.methodLink RX4 103 yX4_look, Cond.instanceMethod yX4_look, Cond.selects RX4 yX4_look yX4_look, Cond.code yX4_look cX4_look 1 none, Cond.methodLink RX4 106 yX4_tip, Cond.instanceMethod yX4_tip, Cond.selects RX4 yX4_tip yX4_tip, Cond.code yX4_tip cX4_tip 4 none]
def wsX4_roll : List Cond := .code yX4_roll cX4_roll 2 (some .int) :: ((wsX4_roll_r1 ++ wsX4_roll_r2) ++ wsX40)
def wsX4_rolledOn_r1 : List Cond := [Cond.methodLink RX4 131 yX4_rolled, Cond.instanceMethod yX4_rolled, Cond.selects RX4 yX4_rolled yX4_rolled, Cond.initialized RX4, Cond.code yX4_rolled cX4_rolled 4 (some .boolean), Cond.fieldLink RX4 77 "PaintedDieModel" "cell" "I", Cond.fieldLink RX4 87 "PaintedDieModel" "itsCell" "I", Cond.fieldLink RX4 90 "PaintedDieModel" "itsTop" "I", Cond.fieldLink RX4 62 "PaintedDieModel" "top" "I", Cond.fieldLink RX4 93 "PaintedDieModel" "itsNorth" "I", Cond.fieldLink RX4 65 "PaintedDieModel" "north" "I", Cond.fieldLink RX4 96 "PaintedDieModel" "itsEast" "I", Cond.fieldLink RX4 68 "PaintedDieModel" "east" "I", Cond.fieldLink RX4 71 "PaintedDieModel" "rolls" "I", Cond.fieldLink RX4 20 "PaintedDieModel" "paint" "[I", Cond.fieldLink RX4 13 "PaintedDieModel" "print" "[I", Cond.fieldLink RX4 17 "PaintedDieModel" "colour" "[I", Cond.fieldLink RX4 74 "PaintedDieModel" "prints" "I", Cond.methodLink RX4 99 yX4_beside, Cond.instanceMethod yX4_beside, Cond.selects RX4 yX4_beside yX4_beside, Cond.code yX4_beside cX4_beside 5 (some .int), Cond.fieldLink RX4 52 "PaintedDieModel" "w" "I", Cond.fieldLink RX4 9 "PaintedDieModel" "isWall" "[Z"]
def wsX4_rolledOn_r2 : List Cond := [Cond.methodLink RX4 83 yX4_isCell, Cond.instanceMethod yX4_isCell, Cond.selects RX4 yX4_isCell yX4_isCell, Cond.code yX4_isCell cX4_isCell 3 (some .boolean), Cond.fieldLink RX4 59 "PaintedDieModel" "h" "I", Cond.methodLink RX4 55 yX4_isIn, Cond.static yX4_isIn, Cond.code yX4_isIn cX4_isIn 3 (some .boolean), Cond.methodLink RX4 103 yX4_look, Cond.instanceMethod yX4_look, Cond.selects RX4 yX4_look yX4_look, Cond.code yX4_look cX4_look 1 none, Cond.methodLink RX4 106 yX4_tip, Cond.instanceMethod yX4_tip, Cond.selects RX4 yX4_tip yX4_tip, Cond.code yX4_tip cX4_tip 4 none]
def wsX4_rolledOn : List Cond := .code yX4_rolledOn cX4_rolledOn 4 (some .int) :: ((wsX4_rolledOn_r1 ++ wsX4_rolledOn_r2) ++ wsX40)
def wsX4_rollOn_r1 : List Cond := [Cond.fieldLink RX4 48 "PaintedDieModel" "thrown" "I", Cond.methodLink RX4 128 yX4_isSide, Cond.static yX4_isSide, Cond.initialized RX4, Cond.code yX4_isSide cX4_isSide 1 (some .boolean), Cond.methodLink RX4 55 yX4_isIn, Cond.static yX4_isIn, Cond.code yX4_isIn cX4_isIn 3 (some .boolean), Cond.methodLink RX4 109 yX4_no, Cond.instanceMethod yX4_no, Cond.selects RX4 yX4_no yX4_no, Cond.code yX4_no cX4_no 2 (some .int), Cond.methodLink RX4 134 yX4_rolledOn, Cond.instanceMethod yX4_rolledOn, Cond.selects RX4 yX4_rolledOn yX4_rolledOn, Cond.code yX4_rolledOn cX4_rolledOn 4 (some .int), Cond.methodLink RX4 131 yX4_rolled, Cond.instanceMethod yX4_rolled, Cond.selects RX4 yX4_rolled yX4_rolled, Cond.code yX4_rolled cX4_rolled 4 (some .boolean), Cond.fieldLink RX4 77 "PaintedDieModel" "cell" "I", Cond.fieldLink RX4 87 "PaintedDieModel" "itsCell" "I", Cond.fieldLink RX4 90 "PaintedDieModel" "itsTop" "I", Cond.fieldLink RX4 62 "PaintedDieModel" "top" "I"]
def wsX4_rollOn_r2 : List Cond := [Cond.fieldLink RX4 93 "PaintedDieModel" "itsNorth" "I", Cond.fieldLink RX4 65 "PaintedDieModel" "north" "I", Cond.fieldLink RX4 96 "PaintedDieModel" "itsEast" "I", Cond.fieldLink RX4 68 "PaintedDieModel" "east" "I", Cond.fieldLink RX4 71 "PaintedDieModel" "rolls" "I", Cond.fieldLink RX4 20 "PaintedDieModel" "paint" "[I", Cond.fieldLink RX4 13 "PaintedDieModel" "print" "[I", Cond.fieldLink RX4 17 "PaintedDieModel" "colour" "[I", Cond.fieldLink RX4 74 "PaintedDieModel" "prints" "I", Cond.methodLink RX4 99 yX4_beside, Cond.instanceMethod yX4_beside, Cond.selects RX4 yX4_beside yX4_beside, Cond.code yX4_beside cX4_beside 5 (some .int), Cond.fieldLink RX4 52 "PaintedDieModel" "w" "I", Cond.fieldLink RX4 9 "PaintedDieModel" "isWall" "[Z", Cond.methodLink RX4 83 yX4_isCell, Cond.instanceMethod yX4_isCell, Cond.selects RX4 yX4_isCell yX4_isCell, Cond.code yX4_isCell cX4_isCell 3 (some .boolean), Cond.fieldLink RX4 59 "PaintedDieModel" "h" "I", Cond.methodLink RX4 103 yX4_look, Cond.instanceMethod yX4_look, Cond.selects RX4 yX4_look yX4_look, Cond.code yX4_look cX4_look 1 none]
def wsX4_rollOn_r3 : List Cond := [Cond.methodLink RX4 106 yX4_tip, Cond.instanceMethod yX4_tip, Cond.selects RX4 yX4_tip yX4_tip, Cond.code yX4_tip cX4_tip 4 none]
def wsX4_rollOn : List Cond := .code yX4_rollOn cX4_rollOn 3 (some .int) :: ((wsX4_rollOn_r1 ++ (wsX4_rollOn_r2 ++ wsX4_rollOn_r3)) ++ wsX40)
def wsX4_ok : List Cond := .code yX4_ok cX4_ok 2 (some .int) :: ([.fieldLink RX4 48 "PaintedDieModel" "thrown" "I"] ++ wsX40)
def wsX4_column : List Cond := .code yX4_column cX4_column 1 (some .int) :: ([.fieldLink RX4 77 "PaintedDieModel" "cell" "I", .fieldLink RX4 52 "PaintedDieModel" "w" "I", .methodLink RX4 137 yX4_ok, .instanceMethod yX4_ok, .selects RX4 yX4_ok yX4_ok, .initialized RX4, .code yX4_ok cX4_ok 2 (some .int), .fieldLink RX4 48 "PaintedDieModel" "thrown" "I"] ++ wsX40)
def wsX4_row : List Cond := .code yX4_row cX4_row 1 (some .int) :: ([.fieldLink RX4 77 "PaintedDieModel" "cell" "I", .fieldLink RX4 52 "PaintedDieModel" "w" "I", .methodLink RX4 137 yX4_ok, .instanceMethod yX4_ok, .selects RX4 yX4_ok yX4_ok, .initialized RX4, .code yX4_ok cX4_ok 2 (some .int), .fieldLink RX4 48 "PaintedDieModel" "thrown" "I"] ++ wsX40)
def wsX4_top : List Cond := .code yX4_top cX4_top 1 (some .int) :: ([.fieldLink RX4 62 "PaintedDieModel" "top" "I", .methodLink RX4 137 yX4_ok, .instanceMethod yX4_ok, .selects RX4 yX4_ok yX4_ok, .initialized RX4, .code yX4_ok cX4_ok 2 (some .int), .fieldLink RX4 48 "PaintedDieModel" "thrown" "I"] ++ wsX40)
def wsX4_bottom : List Cond := .code yX4_bottom cX4_bottom 1 (some .int) :: ([.fieldLink RX4 62 "PaintedDieModel" "top" "I", .methodLink RX4 137 yX4_ok, .instanceMethod yX4_ok, .selects RX4 yX4_ok yX4_ok, .initialized RX4, .code yX4_ok cX4_ok 2 (some .int), .fieldLink RX4 48 "PaintedDieModel" "thrown" "I"] ++ wsX40)
def wsX4_side : List Cond := .code yX4_side cX4_side 2 (some .int) :: ([.fieldLink RX4 65 "PaintedDieModel" "north" "I", .fieldLink RX4 68 "PaintedDieModel" "east" "I"] ++ wsX40)
def wsX4_faceTo : List Cond := .code yX4_faceTo cX4_faceTo 2 (some .int) :: ([.fieldLink RX4 48 "PaintedDieModel" "thrown" "I", .methodLink RX4 128 yX4_isSide, .static yX4_isSide, .initialized RX4, .code yX4_isSide cX4_isSide 1 (some .boolean), .methodLink RX4 55 yX4_isIn, .static yX4_isIn, .code yX4_isIn cX4_isIn 3 (some .boolean), .methodLink RX4 140 yX4_side, .instanceMethod yX4_side, .selects RX4 yX4_side yX4_side, .code yX4_side cX4_side 2 (some .int), .fieldLink RX4 65 "PaintedDieModel" "north" "I", .fieldLink RX4 68 "PaintedDieModel" "east" "I", .methodLink RX4 109 yX4_no, .instanceMethod yX4_no, .selects RX4 yX4_no yX4_no, .code yX4_no cX4_no 2 (some .int)] ++ wsX40)
def wsX4_isAsAtFirst : List Cond := .code yX4_isAsAtFirst cX4_isAsAtFirst 1 (some .boolean) :: ([.fieldLink RX4 48 "PaintedDieModel" "thrown" "I", .fieldLink RX4 62 "PaintedDieModel" "top" "I", .fieldLink RX4 65 "PaintedDieModel" "north" "I"] ++ wsX40)
def wsX4_colourOf : List Cond := .code yX4_colourOf cX4_colourOf 2 (some .int) :: ([.fieldLink RX4 48 "PaintedDieModel" "thrown" "I", .fieldLink RX4 17 "PaintedDieModel" "colour" "[I", .methodLink RX4 117 yX4_isFace, .static yX4_isFace, .initialized RX4, .code yX4_isFace cX4_isFace 1 (some .boolean), .methodLink RX4 55 yX4_isIn, .static yX4_isIn, .code yX4_isIn cX4_isIn 3 (some .boolean), .methodLink RX4 109 yX4_no, .instanceMethod yX4_no, .selects RX4 yX4_no yX4_no, .code yX4_no cX4_no 2 (some .int)] ++ wsX40)
def wsX4_paintOf : List Cond := .code yX4_paintOf cX4_paintOf 2 (some .int) :: ([.fieldLink RX4 48 "PaintedDieModel" "thrown" "I", .fieldLink RX4 20 "PaintedDieModel" "paint" "[I", .methodLink RX4 117 yX4_isFace, .static yX4_isFace, .initialized RX4, .code yX4_isFace cX4_isFace 1 (some .boolean), .methodLink RX4 55 yX4_isIn, .static yX4_isIn, .code yX4_isIn cX4_isIn 3 (some .boolean), .methodLink RX4 109 yX4_no, .instanceMethod yX4_no, .selects RX4 yX4_no yX4_no, .code yX4_no cX4_no 2 (some .int)] ++ wsX40)
def wsX4_isWall : List Cond := .code yX4_isWall cX4_isWall 3 (some .boolean) :: ([.fieldLink RX4 48 "PaintedDieModel" "thrown" "I", .fieldLink RX4 9 "PaintedDieModel" "isWall" "[Z", .fieldLink RX4 52 "PaintedDieModel" "w" "I", .methodLink RX4 83 yX4_isCell, .instanceMethod yX4_isCell, .selects RX4 yX4_isCell yX4_isCell, .initialized RX4, .code yX4_isCell cX4_isCell 3 (some .boolean), .fieldLink RX4 59 "PaintedDieModel" "h" "I", .methodLink RX4 55 yX4_isIn, .static yX4_isIn, .code yX4_isIn cX4_isIn 3 (some .boolean), .methodLink RX4 113 yX4_isNot, .instanceMethod yX4_isNot, .selects RX4 yX4_isNot yX4_isNot, .code yX4_isNot cX4_isNot 2 (some .boolean)] ++ wsX40)
def wsX4_printAt : List Cond := .code yX4_printAt cX4_printAt 3 (some .int) :: ([.fieldLink RX4 48 "PaintedDieModel" "thrown" "I", .fieldLink RX4 13 "PaintedDieModel" "print" "[I", .fieldLink RX4 52 "PaintedDieModel" "w" "I", .methodLink RX4 83 yX4_isCell, .instanceMethod yX4_isCell, .selects RX4 yX4_isCell yX4_isCell, .initialized RX4, .code yX4_isCell cX4_isCell 3 (some .boolean), .fieldLink RX4 59 "PaintedDieModel" "h" "I", .methodLink RX4 55 yX4_isIn, .static yX4_isIn, .code yX4_isIn cX4_isIn 3 (some .boolean), .methodLink RX4 109 yX4_no, .instanceMethod yX4_no, .selects RX4 yX4_no yX4_no, .code yX4_no cX4_no 2 (some .int)] ++ wsX40)
def wsX4_canRoll : List Cond := .code yX4_canRoll cX4_canRoll 2 (some .boolean) :: ([.fieldLink RX4 48 "PaintedDieModel" "thrown" "I", .fieldLink RX4 77 "PaintedDieModel" "cell" "I", .methodLink RX4 128 yX4_isSide, .static yX4_isSide, .initialized RX4, .code yX4_isSide cX4_isSide 1 (some .boolean), .methodLink RX4 55 yX4_isIn, .static yX4_isIn, .code yX4_isIn cX4_isIn 3 (some .boolean), .methodLink RX4 99 yX4_beside, .instanceMethod yX4_beside, .selects RX4 yX4_beside yX4_beside, .code yX4_beside cX4_beside 5 (some .int), .fieldLink RX4 52 "PaintedDieModel" "w" "I", .fieldLink RX4 9 "PaintedDieModel" "isWall" "[Z", .methodLink RX4 83 yX4_isCell, .instanceMethod yX4_isCell, .selects RX4 yX4_isCell yX4_isCell, .code yX4_isCell cX4_isCell 3 (some .boolean), .fieldLink RX4 59 "PaintedDieModel" "h" "I", .methodLink RX4 113 yX4_isNot, .instanceMethod yX4_isNot, .selects RX4 yX4_isNot yX4_isNot, .code yX4_isNot cX4_isNot 2 (some .boolean)] ++ wsX40)
def wsX4_width : List Cond := .code yX4_width cX4_width 1 (some .int) :: ([.fieldLink RX4 52 "PaintedDieModel" "w" "I", .methodLink RX4 137 yX4_ok, .instanceMethod yX4_ok, .selects RX4 yX4_ok yX4_ok, .initialized RX4, .code yX4_ok cX4_ok 2 (some .int), .fieldLink RX4 48 "PaintedDieModel" "thrown" "I"] ++ wsX40)
def wsX4_height : List Cond := .code yX4_height cX4_height 1 (some .int) :: ([.fieldLink RX4 59 "PaintedDieModel" "h" "I", .methodLink RX4 137 yX4_ok, .instanceMethod yX4_ok, .selects RX4 yX4_ok yX4_ok, .initialized RX4, .code yX4_ok cX4_ok 2 (some .int), .fieldLink RX4 48 "PaintedDieModel" "thrown" "I"] ++ wsX40)
def wsX4_wallsThere : List Cond := .code yX4_wallsThere cX4_wallsThere 3 (some .int) :: ([.fieldLink RX4 52 "PaintedDieModel" "w" "I", .fieldLink RX4 59 "PaintedDieModel" "h" "I", .fieldLink RX4 9 "PaintedDieModel" "isWall" "[Z"] ++ wsX40)
def wsX4_walls : List Cond := .code yX4_walls cX4_walls 1 (some .int) :: ([.methodLink RX4 143 yX4_wallsThere, .instanceMethod yX4_wallsThere, .selects RX4 yX4_wallsThere yX4_wallsThere, .initialized RX4, .code yX4_wallsThere cX4_wallsThere 3 (some .int), .fieldLink RX4 52 "PaintedDieModel" "w" "I", .fieldLink RX4 59 "PaintedDieModel" "h" "I", .fieldLink RX4 9 "PaintedDieModel" "isWall" "[Z", .methodLink RX4 137 yX4_ok, .instanceMethod yX4_ok, .selects RX4 yX4_ok yX4_ok, .code yX4_ok cX4_ok 2 (some .int), .fieldLink RX4 48 "PaintedDieModel" "thrown" "I"] ++ wsX40)
def wsX4_rolls : List Cond := .code yX4_rolls cX4_rolls 1 (some .int) :: ([.fieldLink RX4 71 "PaintedDieModel" "rolls" "I", .methodLink RX4 137 yX4_ok, .instanceMethod yX4_ok, .selects RX4 yX4_ok yX4_ok, .initialized RX4, .code yX4_ok cX4_ok 2 (some .int), .fieldLink RX4 48 "PaintedDieModel" "thrown" "I"] ++ wsX40)
def wsX4_prints : List Cond := .code yX4_prints cX4_prints 1 (some .int) :: ([.fieldLink RX4 74 "PaintedDieModel" "prints" "I", .methodLink RX4 137 yX4_ok, .instanceMethod yX4_ok, .selects RX4 yX4_ok yX4_ok, .initialized RX4, .code yX4_ok cX4_ok 2 (some .int), .fieldLink RX4 48 "PaintedDieModel" "thrown" "I"] ++ wsX40)
def wsX4_cellsWith : List Cond := .code yX4_cellsWith cX4_cellsWith 4 (some .int) :: ([.fieldLink RX4 48 "PaintedDieModel" "thrown" "I", .fieldLink RX4 52 "PaintedDieModel" "w" "I", .fieldLink RX4 59 "PaintedDieModel" "h" "I", .fieldLink RX4 13 "PaintedDieModel" "print" "[I", .methodLink RX4 55 yX4_isIn, .static yX4_isIn, .initialized RX4, .code yX4_isIn cX4_isIn 3 (some .boolean), .methodLink RX4 109 yX4_no, .instanceMethod yX4_no, .selects RX4 yX4_no yX4_no, .code yX4_no cX4_no 2 (some .int)] ++ wsX40)
def wsX4_reach : List Cond := .code yX4_reach cX4_reach 3 none :: ([.fieldLink RX4 87 "PaintedDieModel" "itsCell" "I", .fieldLink RX4 90 "PaintedDieModel" "itsTop" "I", .fieldLink RX4 93 "PaintedDieModel" "itsNorth" "I", .fieldLink RX4 23 "PaintedDieModel" "far" "[I", .fieldLink RX4 26 "PaintedDieModel" "cells" "[I", .fieldLink RX4 147 "PaintedDieModel" "reached" "I", .fieldLink RX4 29 "PaintedDieModel" "tops" "[I", .fieldLink RX4 32 "PaintedDieModel" "norths" "[I", .fieldLink RX4 35 "PaintedDieModel" "easts" "[I", .fieldLink RX4 96 "PaintedDieModel" "itsEast" "I"] ++ wsX40)
def wsX4_farOf : List Cond := .code yX4_farOf cX4_farOf 2 (some .int) :: ([.fieldLink RX4 23 "PaintedDieModel" "far" "[I", .fieldLink RX4 26 "PaintedDieModel" "cells" "[I", .fieldLink RX4 29 "PaintedDieModel" "tops" "[I", .fieldLink RX4 32 "PaintedDieModel" "norths" "[I"] ++ wsX40)
def wsX4_spread_r1 : List Cond := [Cond.fieldLink RX4 23 "PaintedDieModel" "far" "[I", Cond.fieldLink RX4 147 "PaintedDieModel" "reached" "I", Cond.fieldLink RX4 26 "PaintedDieModel" "cells" "[I", Cond.methodLink RX4 150 yX4_reach, Cond.instanceMethod yX4_reach, Cond.selects RX4 yX4_reach yX4_reach, Cond.initialized RX4, Cond.code yX4_reach cX4_reach 3 none, Cond.fieldLink RX4 87 "PaintedDieModel" "itsCell" "I", Cond.fieldLink RX4 90 "PaintedDieModel" "itsTop" "I", Cond.fieldLink RX4 93 "PaintedDieModel" "itsNorth" "I", Cond.fieldLink RX4 29 "PaintedDieModel" "tops" "[I", Cond.fieldLink RX4 32 "PaintedDieModel" "norths" "[I", Cond.fieldLink RX4 35 "PaintedDieModel" "easts" "[I", Cond.fieldLink RX4 96 "PaintedDieModel" "itsEast" "I", Cond.methodLink RX4 99 yX4_beside, Cond.instanceMethod yX4_beside, Cond.selects RX4 yX4_beside yX4_beside, Cond.code yX4_beside cX4_beside 5 (some .int), Cond.fieldLink RX4 52 "PaintedDieModel" "w" "I", Cond.fieldLink RX4 9 "PaintedDieModel" "isWall" "[Z", Cond.methodLink RX4 83 yX4_isCell, Cond.instanceMethod yX4_isCell, Cond.selects RX4 yX4_isCell yX4_isCell]
def wsX4_spread_r2 : List Cond := [Cond.code yX4_isCell cX4_isCell 3 (some .boolean), Cond.fieldLink RX4 59 "PaintedDieModel" "h" "I", Cond.methodLink RX4 55 yX4_isIn, Cond.static yX4_isIn, Cond.code yX4_isIn cX4_isIn 3 (some .boolean), Cond.methodLink RX4 154 yX4_lookAt, Cond.instanceMethod yX4_lookAt, Cond.selects RX4 yX4_lookAt yX4_lookAt, Cond.code yX4_lookAt cX4_lookAt 2 none, Cond.methodLink RX4 106 yX4_tip, Cond.instanceMethod yX4_tip, Cond.selects RX4 yX4_tip yX4_tip, Cond.code yX4_tip cX4_tip 4 none, Cond.methodLink RX4 157 yX4_farOf, Cond.instanceMethod yX4_farOf, Cond.selects RX4 yX4_farOf yX4_farOf, Cond.code yX4_farOf cX4_farOf 2 (some .int)]
def wsX4_spread : List Cond := .code yX4_spread cX4_spread 4 none :: ((wsX4_spread_r1 ++ wsX4_spread_r2) ++ wsX40)
def wsX4_fewestTo : List Cond := .code yX4_fewestTo cX4_fewestTo 4 (some .int) :: ([.fieldLink RX4 147 "PaintedDieModel" "reached" "I", .fieldLink RX4 26 "PaintedDieModel" "cells" "[I", .fieldLink RX4 29 "PaintedDieModel" "tops" "[I", .methodLink RX4 157 yX4_farOf, .instanceMethod yX4_farOf, .selects RX4 yX4_farOf yX4_farOf, .initialized RX4, .code yX4_farOf cX4_farOf 2 (some .int), .fieldLink RX4 23 "PaintedDieModel" "far" "[I", .fieldLink RX4 32 "PaintedDieModel" "norths" "[I"] ++ wsX40)
def wsX4_fewest_r1 : List Cond := [Cond.methodLink RX4 103 yX4_look, Cond.instanceMethod yX4_look, Cond.selects RX4 yX4_look yX4_look, Cond.initialized RX4, Cond.code yX4_look cX4_look 1 none, Cond.fieldLink RX4 77 "PaintedDieModel" "cell" "I", Cond.fieldLink RX4 87 "PaintedDieModel" "itsCell" "I", Cond.fieldLink RX4 62 "PaintedDieModel" "top" "I", Cond.fieldLink RX4 90 "PaintedDieModel" "itsTop" "I", Cond.fieldLink RX4 65 "PaintedDieModel" "north" "I", Cond.fieldLink RX4 93 "PaintedDieModel" "itsNorth" "I", Cond.fieldLink RX4 68 "PaintedDieModel" "east" "I", Cond.fieldLink RX4 96 "PaintedDieModel" "itsEast" "I", Cond.methodLink RX4 160 yX4_spread, Cond.instanceMethod yX4_spread, Cond.selects RX4 yX4_spread yX4_spread, Cond.code yX4_spread cX4_spread 4 none, Cond.fieldLink RX4 23 "PaintedDieModel" "far" "[I", Cond.fieldLink RX4 147 "PaintedDieModel" "reached" "I", Cond.fieldLink RX4 26 "PaintedDieModel" "cells" "[I", Cond.methodLink RX4 150 yX4_reach, Cond.instanceMethod yX4_reach, Cond.selects RX4 yX4_reach yX4_reach, Cond.code yX4_reach cX4_reach 3 none]
def wsX4_fewest_r2 : List Cond := [Cond.fieldLink RX4 29 "PaintedDieModel" "tops" "[I", Cond.fieldLink RX4 32 "PaintedDieModel" "norths" "[I", Cond.fieldLink RX4 35 "PaintedDieModel" "easts" "[I", Cond.methodLink RX4 99 yX4_beside, Cond.instanceMethod yX4_beside, Cond.selects RX4 yX4_beside yX4_beside, Cond.code yX4_beside cX4_beside 5 (some .int), Cond.fieldLink RX4 52 "PaintedDieModel" "w" "I", Cond.fieldLink RX4 9 "PaintedDieModel" "isWall" "[Z", Cond.methodLink RX4 83 yX4_isCell, Cond.instanceMethod yX4_isCell, Cond.selects RX4 yX4_isCell yX4_isCell, Cond.code yX4_isCell cX4_isCell 3 (some .boolean), Cond.fieldLink RX4 59 "PaintedDieModel" "h" "I", Cond.methodLink RX4 55 yX4_isIn, Cond.static yX4_isIn, Cond.code yX4_isIn cX4_isIn 3 (some .boolean), Cond.methodLink RX4 154 yX4_lookAt, Cond.instanceMethod yX4_lookAt, Cond.selects RX4 yX4_lookAt yX4_lookAt, Cond.code yX4_lookAt cX4_lookAt 2 none, Cond.methodLink RX4 106 yX4_tip, Cond.instanceMethod yX4_tip, Cond.selects RX4 yX4_tip yX4_tip]
def wsX4_fewest_r3 : List Cond := [Cond.code yX4_tip cX4_tip 4 none, Cond.methodLink RX4 157 yX4_farOf, Cond.instanceMethod yX4_farOf, Cond.selects RX4 yX4_farOf yX4_farOf, Cond.code yX4_farOf cX4_farOf 2 (some .int), Cond.methodLink RX4 163 yX4_fewestTo, Cond.instanceMethod yX4_fewestTo, Cond.selects RX4 yX4_fewestTo yX4_fewestTo, Cond.code yX4_fewestTo cX4_fewestTo 4 (some .int)]
def wsX4_fewest : List Cond := .code yX4_fewest cX4_fewest 3 (some .int) :: ((wsX4_fewest_r1 ++ (wsX4_fewest_r2 ++ wsX4_fewest_r3)) ++ wsX40)
def wsX4_fewestRolls_r1 : List Cond := [Cond.fieldLink RX4 48 "PaintedDieModel" "thrown" "I", Cond.fieldLink RX4 52 "PaintedDieModel" "w" "I", Cond.methodLink RX4 83 yX4_isCell, Cond.instanceMethod yX4_isCell, Cond.selects RX4 yX4_isCell yX4_isCell, Cond.initialized RX4, Cond.code yX4_isCell cX4_isCell 3 (some .boolean), Cond.fieldLink RX4 59 "PaintedDieModel" "h" "I", Cond.methodLink RX4 55 yX4_isIn, Cond.static yX4_isIn, Cond.code yX4_isIn cX4_isIn 3 (some .boolean), Cond.methodLink RX4 166 yX4_fewest, Cond.instanceMethod yX4_fewest, Cond.selects RX4 yX4_fewest yX4_fewest, Cond.code yX4_fewest cX4_fewest 3 (some .int), Cond.methodLink RX4 103 yX4_look, Cond.instanceMethod yX4_look, Cond.selects RX4 yX4_look yX4_look, Cond.code yX4_look cX4_look 1 none, Cond.fieldLink RX4 77 "PaintedDieModel" "cell" "I", Cond.fieldLink RX4 87 "PaintedDieModel" "itsCell" "I", Cond.fieldLink RX4 62 "PaintedDieModel" "top" "I", Cond.fieldLink RX4 90 "PaintedDieModel" "itsTop" "I", Cond.fieldLink RX4 65 "PaintedDieModel" "north" "I"]
def wsX4_fewestRolls_r2 : List Cond := [Cond.fieldLink RX4 93 "PaintedDieModel" "itsNorth" "I", Cond.fieldLink RX4 68 "PaintedDieModel" "east" "I", Cond.fieldLink RX4 96 "PaintedDieModel" "itsEast" "I", Cond.methodLink RX4 160 yX4_spread, Cond.instanceMethod yX4_spread, Cond.selects RX4 yX4_spread yX4_spread, Cond.code yX4_spread cX4_spread 4 none, Cond.fieldLink RX4 23 "PaintedDieModel" "far" "[I", Cond.fieldLink RX4 147 "PaintedDieModel" "reached" "I", Cond.fieldLink RX4 26 "PaintedDieModel" "cells" "[I", Cond.methodLink RX4 150 yX4_reach, Cond.instanceMethod yX4_reach, Cond.selects RX4 yX4_reach yX4_reach, Cond.code yX4_reach cX4_reach 3 none, Cond.fieldLink RX4 29 "PaintedDieModel" "tops" "[I", Cond.fieldLink RX4 32 "PaintedDieModel" "norths" "[I", Cond.fieldLink RX4 35 "PaintedDieModel" "easts" "[I", Cond.methodLink RX4 99 yX4_beside, Cond.instanceMethod yX4_beside, Cond.selects RX4 yX4_beside yX4_beside, Cond.code yX4_beside cX4_beside 5 (some .int), Cond.fieldLink RX4 9 "PaintedDieModel" "isWall" "[Z", Cond.methodLink RX4 154 yX4_lookAt, Cond.instanceMethod yX4_lookAt]
def wsX4_fewestRolls_r3 : List Cond := [Cond.selects RX4 yX4_lookAt yX4_lookAt, Cond.code yX4_lookAt cX4_lookAt 2 none, Cond.methodLink RX4 106 yX4_tip, Cond.instanceMethod yX4_tip, Cond.selects RX4 yX4_tip yX4_tip, Cond.code yX4_tip cX4_tip 4 none, Cond.methodLink RX4 157 yX4_farOf, Cond.instanceMethod yX4_farOf, Cond.selects RX4 yX4_farOf yX4_farOf, Cond.code yX4_farOf cX4_farOf 2 (some .int), Cond.methodLink RX4 163 yX4_fewestTo, Cond.instanceMethod yX4_fewestTo, Cond.selects RX4 yX4_fewestTo yX4_fewestTo, Cond.code yX4_fewestTo cX4_fewestTo 4 (some .int), Cond.methodLink RX4 109 yX4_no, Cond.instanceMethod yX4_no, Cond.selects RX4 yX4_no yX4_no, Cond.code yX4_no cX4_no 2 (some .int)]
def wsX4_fewestRolls : List Cond := .code yX4_fewestRolls cX4_fewestRolls 3 (some .int) :: ((wsX4_fewestRolls_r1 ++ (wsX4_fewestRolls_r2 ++ wsX4_fewestRolls_r3)) ++ wsX40)
def wsX4_fewestRollsWithTop_r1 : List Cond := [Cond.fieldLink RX4 48 "PaintedDieModel" "thrown" "I", Cond.fieldLink RX4 52 "PaintedDieModel" "w" "I", Cond.methodLink RX4 83 yX4_isCell, Cond.instanceMethod yX4_isCell, Cond.selects RX4 yX4_isCell yX4_isCell, Cond.initialized RX4, Cond.code yX4_isCell cX4_isCell 3 (some .boolean), Cond.fieldLink RX4 59 "PaintedDieModel" "h" "I", Cond.methodLink RX4 55 yX4_isIn, Cond.static yX4_isIn, Cond.code yX4_isIn cX4_isIn 3 (some .boolean), Cond.methodLink RX4 117 yX4_isFace, Cond.static yX4_isFace, Cond.code yX4_isFace cX4_isFace 1 (some .boolean), Cond.methodLink RX4 166 yX4_fewest, Cond.instanceMethod yX4_fewest, Cond.selects RX4 yX4_fewest yX4_fewest, Cond.code yX4_fewest cX4_fewest 3 (some .int), Cond.methodLink RX4 103 yX4_look, Cond.instanceMethod yX4_look, Cond.selects RX4 yX4_look yX4_look, Cond.code yX4_look cX4_look 1 none, Cond.fieldLink RX4 77 "PaintedDieModel" "cell" "I", Cond.fieldLink RX4 87 "PaintedDieModel" "itsCell" "I"]
def wsX4_fewestRollsWithTop_r2 : List Cond := [Cond.fieldLink RX4 62 "PaintedDieModel" "top" "I", Cond.fieldLink RX4 90 "PaintedDieModel" "itsTop" "I", Cond.fieldLink RX4 65 "PaintedDieModel" "north" "I", Cond.fieldLink RX4 93 "PaintedDieModel" "itsNorth" "I", Cond.fieldLink RX4 68 "PaintedDieModel" "east" "I", Cond.fieldLink RX4 96 "PaintedDieModel" "itsEast" "I", Cond.methodLink RX4 160 yX4_spread, Cond.instanceMethod yX4_spread, Cond.selects RX4 yX4_spread yX4_spread, Cond.code yX4_spread cX4_spread 4 none, Cond.fieldLink RX4 23 "PaintedDieModel" "far" "[I", Cond.fieldLink RX4 147 "PaintedDieModel" "reached" "I", Cond.fieldLink RX4 26 "PaintedDieModel" "cells" "[I", Cond.methodLink RX4 150 yX4_reach, Cond.instanceMethod yX4_reach, Cond.selects RX4 yX4_reach yX4_reach, Cond.code yX4_reach cX4_reach 3 none, Cond.fieldLink RX4 29 "PaintedDieModel" "tops" "[I", Cond.fieldLink RX4 32 "PaintedDieModel" "norths" "[I", Cond.fieldLink RX4 35 "PaintedDieModel" "easts" "[I", Cond.methodLink RX4 99 yX4_beside, Cond.instanceMethod yX4_beside, Cond.selects RX4 yX4_beside yX4_beside, Cond.code yX4_beside cX4_beside 5 (some .int)]
def wsX4_fewestRollsWithTop_r3 : List Cond := [Cond.fieldLink RX4 9 "PaintedDieModel" "isWall" "[Z", Cond.methodLink RX4 154 yX4_lookAt, Cond.instanceMethod yX4_lookAt, Cond.selects RX4 yX4_lookAt yX4_lookAt, Cond.code yX4_lookAt cX4_lookAt 2 none, Cond.methodLink RX4 106 yX4_tip, Cond.instanceMethod yX4_tip, Cond.selects RX4 yX4_tip yX4_tip, Cond.code yX4_tip cX4_tip 4 none, Cond.methodLink RX4 157 yX4_farOf, Cond.instanceMethod yX4_farOf, Cond.selects RX4 yX4_farOf yX4_farOf, Cond.code yX4_farOf cX4_farOf 2 (some .int), Cond.methodLink RX4 163 yX4_fewestTo, Cond.instanceMethod yX4_fewestTo, Cond.selects RX4 yX4_fewestTo yX4_fewestTo, Cond.code yX4_fewestTo cX4_fewestTo 4 (some .int), Cond.methodLink RX4 109 yX4_no, Cond.instanceMethod yX4_no, Cond.selects RX4 yX4_no yX4_no, Cond.code yX4_no cX4_no 2 (some .int)]
def wsX4_fewestRollsWithTop : List Cond := .code yX4_fewestRollsWithTop cX4_fewestRollsWithTop 4 (some .int) :: ((wsX4_fewestRollsWithTop_r1 ++ (wsX4_fewestRollsWithTop_r2 ++ wsX4_fewestRollsWithTop_r3)) ++ wsX40)
def wsX4_first_r1 : List Cond := [Cond.fieldLink RX4 77 "PaintedDieModel" "cell" "I", Cond.methodLink RX4 166 yX4_fewest, Cond.instanceMethod yX4_fewest, Cond.selects RX4 yX4_fewest yX4_fewest, Cond.initialized RX4, Cond.code yX4_fewest cX4_fewest 3 (some .int), Cond.methodLink RX4 103 yX4_look, Cond.instanceMethod yX4_look, Cond.selects RX4 yX4_look yX4_look, Cond.code yX4_look cX4_look 1 none, Cond.fieldLink RX4 87 "PaintedDieModel" "itsCell" "I", Cond.fieldLink RX4 62 "PaintedDieModel" "top" "I", Cond.fieldLink RX4 90 "PaintedDieModel" "itsTop" "I", Cond.fieldLink RX4 65 "PaintedDieModel" "north" "I", Cond.fieldLink RX4 93 "PaintedDieModel" "itsNorth" "I", Cond.fieldLink RX4 68 "PaintedDieModel" "east" "I", Cond.fieldLink RX4 96 "PaintedDieModel" "itsEast" "I", Cond.methodLink RX4 160 yX4_spread, Cond.instanceMethod yX4_spread, Cond.selects RX4 yX4_spread yX4_spread, Cond.code yX4_spread cX4_spread 4 none, Cond.fieldLink RX4 23 "PaintedDieModel" "far" "[I", Cond.fieldLink RX4 147 "PaintedDieModel" "reached" "I", Cond.fieldLink RX4 26 "PaintedDieModel" "cells" "[I"]
def wsX4_first_r2 : List Cond := [Cond.methodLink RX4 150 yX4_reach, Cond.instanceMethod yX4_reach, Cond.selects RX4 yX4_reach yX4_reach, Cond.code yX4_reach cX4_reach 3 none, Cond.fieldLink RX4 29 "PaintedDieModel" "tops" "[I", Cond.fieldLink RX4 32 "PaintedDieModel" "norths" "[I", Cond.fieldLink RX4 35 "PaintedDieModel" "easts" "[I", Cond.methodLink RX4 99 yX4_beside, Cond.instanceMethod yX4_beside, Cond.selects RX4 yX4_beside yX4_beside, Cond.code yX4_beside cX4_beside 5 (some .int), Cond.fieldLink RX4 52 "PaintedDieModel" "w" "I", Cond.fieldLink RX4 9 "PaintedDieModel" "isWall" "[Z", Cond.methodLink RX4 83 yX4_isCell, Cond.instanceMethod yX4_isCell, Cond.selects RX4 yX4_isCell yX4_isCell, Cond.code yX4_isCell cX4_isCell 3 (some .boolean), Cond.fieldLink RX4 59 "PaintedDieModel" "h" "I", Cond.methodLink RX4 55 yX4_isIn, Cond.static yX4_isIn, Cond.code yX4_isIn cX4_isIn 3 (some .boolean), Cond.methodLink RX4 154 yX4_lookAt, Cond.instanceMethod yX4_lookAt, Cond.selects RX4 yX4_lookAt yX4_lookAt]
def wsX4_first_r3 : List Cond := [Cond.code yX4_lookAt cX4_lookAt 2 none, Cond.methodLink RX4 106 yX4_tip, Cond.instanceMethod yX4_tip, Cond.selects RX4 yX4_tip yX4_tip, Cond.code yX4_tip cX4_tip 4 none, Cond.methodLink RX4 157 yX4_farOf, Cond.instanceMethod yX4_farOf, Cond.selects RX4 yX4_farOf yX4_farOf, Cond.code yX4_farOf cX4_farOf 2 (some .int), Cond.methodLink RX4 163 yX4_fewestTo, Cond.instanceMethod yX4_fewestTo, Cond.selects RX4 yX4_fewestTo yX4_fewestTo, Cond.code yX4_fewestTo cX4_fewestTo 4 (some .int)]
def wsX4_first : List Cond := .code yX4_first cX4_first 6 (some .int) :: ((wsX4_first_r1 ++ (wsX4_first_r2 ++ wsX4_first_r3)) ++ wsX40)
def wsX4_firstRoll_r1 : List Cond := [Cond.fieldLink RX4 48 "PaintedDieModel" "thrown" "I", Cond.fieldLink RX4 52 "PaintedDieModel" "w" "I", Cond.methodLink RX4 83 yX4_isCell, Cond.instanceMethod yX4_isCell, Cond.selects RX4 yX4_isCell yX4_isCell, Cond.initialized RX4, Cond.code yX4_isCell cX4_isCell 3 (some .boolean), Cond.fieldLink RX4 59 "PaintedDieModel" "h" "I", Cond.methodLink RX4 55 yX4_isIn, Cond.static yX4_isIn, Cond.code yX4_isIn cX4_isIn 3 (some .boolean), Cond.methodLink RX4 117 yX4_isFace, Cond.static yX4_isFace, Cond.code yX4_isFace cX4_isFace 1 (some .boolean), Cond.methodLink RX4 169 yX4_first, Cond.instanceMethod yX4_first, Cond.selects RX4 yX4_first yX4_first, Cond.code yX4_first cX4_first 6 (some .int), Cond.fieldLink RX4 77 "PaintedDieModel" "cell" "I", Cond.methodLink RX4 166 yX4_fewest, Cond.instanceMethod yX4_fewest, Cond.selects RX4 yX4_fewest yX4_fewest, Cond.code yX4_fewest cX4_fewest 3 (some .int), Cond.methodLink RX4 103 yX4_look]
def wsX4_firstRoll_r2 : List Cond := [Cond.instanceMethod yX4_look, Cond.selects RX4 yX4_look yX4_look, Cond.code yX4_look cX4_look 1 none, Cond.fieldLink RX4 87 "PaintedDieModel" "itsCell" "I", Cond.fieldLink RX4 62 "PaintedDieModel" "top" "I", Cond.fieldLink RX4 90 "PaintedDieModel" "itsTop" "I", Cond.fieldLink RX4 65 "PaintedDieModel" "north" "I", Cond.fieldLink RX4 93 "PaintedDieModel" "itsNorth" "I", Cond.fieldLink RX4 68 "PaintedDieModel" "east" "I", Cond.fieldLink RX4 96 "PaintedDieModel" "itsEast" "I", Cond.methodLink RX4 160 yX4_spread, Cond.instanceMethod yX4_spread, Cond.selects RX4 yX4_spread yX4_spread, Cond.code yX4_spread cX4_spread 4 none, Cond.fieldLink RX4 23 "PaintedDieModel" "far" "[I", Cond.fieldLink RX4 147 "PaintedDieModel" "reached" "I", Cond.fieldLink RX4 26 "PaintedDieModel" "cells" "[I", Cond.methodLink RX4 150 yX4_reach, Cond.instanceMethod yX4_reach, Cond.selects RX4 yX4_reach yX4_reach, Cond.code yX4_reach cX4_reach 3 none, Cond.fieldLink RX4 29 "PaintedDieModel" "tops" "[I", Cond.fieldLink RX4 32 "PaintedDieModel" "norths" "[I", Cond.fieldLink RX4 35 "PaintedDieModel" "easts" "[I"]
def wsX4_firstRoll_r3 : List Cond := [Cond.methodLink RX4 99 yX4_beside, Cond.instanceMethod yX4_beside, Cond.selects RX4 yX4_beside yX4_beside, Cond.code yX4_beside cX4_beside 5 (some .int), Cond.fieldLink RX4 9 "PaintedDieModel" "isWall" "[Z", Cond.methodLink RX4 154 yX4_lookAt, Cond.instanceMethod yX4_lookAt, Cond.selects RX4 yX4_lookAt yX4_lookAt, Cond.code yX4_lookAt cX4_lookAt 2 none, Cond.methodLink RX4 106 yX4_tip, Cond.instanceMethod yX4_tip, Cond.selects RX4 yX4_tip yX4_tip, Cond.code yX4_tip cX4_tip 4 none, Cond.methodLink RX4 157 yX4_farOf, Cond.instanceMethod yX4_farOf, Cond.selects RX4 yX4_farOf yX4_farOf, Cond.code yX4_farOf cX4_farOf 2 (some .int), Cond.methodLink RX4 163 yX4_fewestTo, Cond.instanceMethod yX4_fewestTo, Cond.selects RX4 yX4_fewestTo yX4_fewestTo, Cond.code yX4_fewestTo cX4_fewestTo 4 (some .int), Cond.methodLink RX4 109 yX4_no, Cond.instanceMethod yX4_no, Cond.selects RX4 yX4_no yX4_no]
def wsX4_firstRoll_r4 : List Cond := [Cond.code yX4_no cX4_no 2 (some .int)]
def wsX4_firstRoll : List Cond := .code yX4_firstRoll cX4_firstRoll 4 (some .int) :: ((wsX4_firstRoll_r1 ++ (wsX4_firstRoll_r2 ++ (wsX4_firstRoll_r3 ++ wsX4_firstRoll_r4))) ++ wsX40)
def wsX4_topsOn : List Cond := .code yX4_topsOn cX4_topsOn 4 (some .int) :: ([.methodLink RX4 163 yX4_fewestTo, .instanceMethod yX4_fewestTo, .selects RX4 yX4_fewestTo yX4_fewestTo, .initialized RX4, .code yX4_fewestTo cX4_fewestTo 4 (some .int), .fieldLink RX4 147 "PaintedDieModel" "reached" "I", .fieldLink RX4 26 "PaintedDieModel" "cells" "[I", .fieldLink RX4 29 "PaintedDieModel" "tops" "[I", .methodLink RX4 157 yX4_farOf, .instanceMethod yX4_farOf, .selects RX4 yX4_farOf yX4_farOf, .code yX4_farOf cX4_farOf 2 (some .int), .fieldLink RX4 23 "PaintedDieModel" "far" "[I", .fieldLink RX4 32 "PaintedDieModel" "norths" "[I"] ++ wsX40)
def wsX4_topsAt_r1 : List Cond := [Cond.fieldLink RX4 48 "PaintedDieModel" "thrown" "I", Cond.fieldLink RX4 52 "PaintedDieModel" "w" "I", Cond.methodLink RX4 83 yX4_isCell, Cond.instanceMethod yX4_isCell, Cond.selects RX4 yX4_isCell yX4_isCell, Cond.initialized RX4, Cond.code yX4_isCell cX4_isCell 3 (some .boolean), Cond.fieldLink RX4 59 "PaintedDieModel" "h" "I", Cond.methodLink RX4 55 yX4_isIn, Cond.static yX4_isIn, Cond.code yX4_isIn cX4_isIn 3 (some .boolean), Cond.methodLink RX4 109 yX4_no, Cond.instanceMethod yX4_no, Cond.selects RX4 yX4_no yX4_no, Cond.code yX4_no cX4_no 2 (some .int), Cond.methodLink RX4 103 yX4_look, Cond.instanceMethod yX4_look, Cond.selects RX4 yX4_look yX4_look, Cond.code yX4_look cX4_look 1 none, Cond.fieldLink RX4 77 "PaintedDieModel" "cell" "I", Cond.fieldLink RX4 87 "PaintedDieModel" "itsCell" "I", Cond.fieldLink RX4 62 "PaintedDieModel" "top" "I", Cond.fieldLink RX4 90 "PaintedDieModel" "itsTop" "I", Cond.fieldLink RX4 65 "PaintedDieModel" "north" "I"]
def wsX4_topsAt_r2 : List Cond := [Cond.fieldLink RX4 93 "PaintedDieModel" "itsNorth" "I", Cond.fieldLink RX4 68 "PaintedDieModel" "east" "I", Cond.fieldLink RX4 96 "PaintedDieModel" "itsEast" "I", Cond.methodLink RX4 160 yX4_spread, Cond.instanceMethod yX4_spread, Cond.selects RX4 yX4_spread yX4_spread, Cond.code yX4_spread cX4_spread 4 none, Cond.fieldLink RX4 23 "PaintedDieModel" "far" "[I", Cond.fieldLink RX4 147 "PaintedDieModel" "reached" "I", Cond.fieldLink RX4 26 "PaintedDieModel" "cells" "[I", Cond.methodLink RX4 150 yX4_reach, Cond.instanceMethod yX4_reach, Cond.selects RX4 yX4_reach yX4_reach, Cond.code yX4_reach cX4_reach 3 none, Cond.fieldLink RX4 29 "PaintedDieModel" "tops" "[I", Cond.fieldLink RX4 32 "PaintedDieModel" "norths" "[I", Cond.fieldLink RX4 35 "PaintedDieModel" "easts" "[I", Cond.methodLink RX4 99 yX4_beside, Cond.instanceMethod yX4_beside, Cond.selects RX4 yX4_beside yX4_beside, Cond.code yX4_beside cX4_beside 5 (some .int), Cond.fieldLink RX4 9 "PaintedDieModel" "isWall" "[Z", Cond.methodLink RX4 154 yX4_lookAt, Cond.instanceMethod yX4_lookAt]
def wsX4_topsAt_r3 : List Cond := [Cond.selects RX4 yX4_lookAt yX4_lookAt, Cond.code yX4_lookAt cX4_lookAt 2 none, Cond.methodLink RX4 106 yX4_tip, Cond.instanceMethod yX4_tip, Cond.selects RX4 yX4_tip yX4_tip, Cond.code yX4_tip cX4_tip 4 none, Cond.methodLink RX4 157 yX4_farOf, Cond.instanceMethod yX4_farOf, Cond.selects RX4 yX4_farOf yX4_farOf, Cond.code yX4_farOf cX4_farOf 2 (some .int), Cond.methodLink RX4 172 yX4_topsOn, Cond.instanceMethod yX4_topsOn, Cond.selects RX4 yX4_topsOn yX4_topsOn, Cond.code yX4_topsOn cX4_topsOn 4 (some .int), Cond.methodLink RX4 163 yX4_fewestTo, Cond.instanceMethod yX4_fewestTo, Cond.selects RX4 yX4_fewestTo yX4_fewestTo, Cond.code yX4_fewestTo cX4_fewestTo 4 (some .int)]
def wsX4_topsAt : List Cond := .code yX4_topsAt cX4_topsAt 3 (some .int) :: ((wsX4_topsAt_r1 ++ (wsX4_topsAt_r2 ++ wsX4_topsAt_r3)) ++ wsX40)
def wsX4_cellsWithinReach_r1 : List Cond := [Cond.fieldLink RX4 48 "PaintedDieModel" "thrown" "I", Cond.fieldLink RX4 52 "PaintedDieModel" "w" "I", Cond.fieldLink RX4 59 "PaintedDieModel" "h" "I", Cond.methodLink RX4 103 yX4_look, Cond.instanceMethod yX4_look, Cond.selects RX4 yX4_look yX4_look, Cond.initialized RX4, Cond.code yX4_look cX4_look 1 none, Cond.fieldLink RX4 77 "PaintedDieModel" "cell" "I", Cond.fieldLink RX4 87 "PaintedDieModel" "itsCell" "I", Cond.fieldLink RX4 62 "PaintedDieModel" "top" "I", Cond.fieldLink RX4 90 "PaintedDieModel" "itsTop" "I", Cond.fieldLink RX4 65 "PaintedDieModel" "north" "I", Cond.fieldLink RX4 93 "PaintedDieModel" "itsNorth" "I", Cond.fieldLink RX4 68 "PaintedDieModel" "east" "I", Cond.fieldLink RX4 96 "PaintedDieModel" "itsEast" "I", Cond.methodLink RX4 160 yX4_spread, Cond.instanceMethod yX4_spread, Cond.selects RX4 yX4_spread yX4_spread, Cond.code yX4_spread cX4_spread 4 none, Cond.fieldLink RX4 23 "PaintedDieModel" "far" "[I", Cond.fieldLink RX4 147 "PaintedDieModel" "reached" "I", Cond.fieldLink RX4 26 "PaintedDieModel" "cells" "[I", Cond.methodLink RX4 150 yX4_reach]
def wsX4_cellsWithinReach_r2 : List Cond := [Cond.instanceMethod yX4_reach, Cond.selects RX4 yX4_reach yX4_reach, Cond.code yX4_reach cX4_reach 3 none, Cond.fieldLink RX4 29 "PaintedDieModel" "tops" "[I", Cond.fieldLink RX4 32 "PaintedDieModel" "norths" "[I", Cond.fieldLink RX4 35 "PaintedDieModel" "easts" "[I", Cond.methodLink RX4 99 yX4_beside, Cond.instanceMethod yX4_beside, Cond.selects RX4 yX4_beside yX4_beside, Cond.code yX4_beside cX4_beside 5 (some .int), Cond.fieldLink RX4 9 "PaintedDieModel" "isWall" "[Z", Cond.methodLink RX4 83 yX4_isCell, Cond.instanceMethod yX4_isCell, Cond.selects RX4 yX4_isCell yX4_isCell, Cond.code yX4_isCell cX4_isCell 3 (some .boolean), Cond.methodLink RX4 55 yX4_isIn, Cond.static yX4_isIn, Cond.code yX4_isIn cX4_isIn 3 (some .boolean), Cond.methodLink RX4 154 yX4_lookAt, Cond.instanceMethod yX4_lookAt, Cond.selects RX4 yX4_lookAt yX4_lookAt, Cond.code yX4_lookAt cX4_lookAt 2 none, Cond.methodLink RX4 106 yX4_tip, Cond.instanceMethod yX4_tip]
def wsX4_cellsWithinReach_r3 : List Cond := [Cond.selects RX4 yX4_tip yX4_tip, Cond.code yX4_tip cX4_tip 4 none, Cond.methodLink RX4 157 yX4_farOf, Cond.instanceMethod yX4_farOf, Cond.selects RX4 yX4_farOf yX4_farOf, Cond.code yX4_farOf cX4_farOf 2 (some .int), Cond.methodLink RX4 163 yX4_fewestTo, Cond.instanceMethod yX4_fewestTo, Cond.selects RX4 yX4_fewestTo yX4_fewestTo, Cond.code yX4_fewestTo cX4_fewestTo 4 (some .int)]
def wsX4_cellsWithinReach : List Cond := .code yX4_cellsWithinReach cX4_cellsWithinReach 3 (some .int) :: ((wsX4_cellsWithinReach_r1 ++ (wsX4_cellsWithinReach_r2 ++ wsX4_cellsWithinReach_r3)) ++ wsX40)
def wsX4_waysToLie_r1 : List Cond := [Cond.fieldLink RX4 48 "PaintedDieModel" "thrown" "I", Cond.fieldLink RX4 147 "PaintedDieModel" "reached" "I", Cond.methodLink RX4 103 yX4_look, Cond.instanceMethod yX4_look, Cond.selects RX4 yX4_look yX4_look, Cond.initialized RX4, Cond.code yX4_look cX4_look 1 none, Cond.fieldLink RX4 77 "PaintedDieModel" "cell" "I", Cond.fieldLink RX4 87 "PaintedDieModel" "itsCell" "I", Cond.fieldLink RX4 62 "PaintedDieModel" "top" "I", Cond.fieldLink RX4 90 "PaintedDieModel" "itsTop" "I", Cond.fieldLink RX4 65 "PaintedDieModel" "north" "I", Cond.fieldLink RX4 93 "PaintedDieModel" "itsNorth" "I", Cond.fieldLink RX4 68 "PaintedDieModel" "east" "I", Cond.fieldLink RX4 96 "PaintedDieModel" "itsEast" "I", Cond.methodLink RX4 160 yX4_spread, Cond.instanceMethod yX4_spread, Cond.selects RX4 yX4_spread yX4_spread, Cond.code yX4_spread cX4_spread 4 none, Cond.fieldLink RX4 23 "PaintedDieModel" "far" "[I", Cond.fieldLink RX4 26 "PaintedDieModel" "cells" "[I", Cond.methodLink RX4 150 yX4_reach, Cond.instanceMethod yX4_reach, Cond.selects RX4 yX4_reach yX4_reach]
def wsX4_waysToLie_r2 : List Cond := [Cond.code yX4_reach cX4_reach 3 none, Cond.fieldLink RX4 29 "PaintedDieModel" "tops" "[I", Cond.fieldLink RX4 32 "PaintedDieModel" "norths" "[I", Cond.fieldLink RX4 35 "PaintedDieModel" "easts" "[I", Cond.methodLink RX4 99 yX4_beside, Cond.instanceMethod yX4_beside, Cond.selects RX4 yX4_beside yX4_beside, Cond.code yX4_beside cX4_beside 5 (some .int), Cond.fieldLink RX4 52 "PaintedDieModel" "w" "I", Cond.fieldLink RX4 9 "PaintedDieModel" "isWall" "[Z", Cond.methodLink RX4 83 yX4_isCell, Cond.instanceMethod yX4_isCell, Cond.selects RX4 yX4_isCell yX4_isCell, Cond.code yX4_isCell cX4_isCell 3 (some .boolean), Cond.fieldLink RX4 59 "PaintedDieModel" "h" "I", Cond.methodLink RX4 55 yX4_isIn, Cond.static yX4_isIn, Cond.code yX4_isIn cX4_isIn 3 (some .boolean), Cond.methodLink RX4 154 yX4_lookAt, Cond.instanceMethod yX4_lookAt, Cond.selects RX4 yX4_lookAt yX4_lookAt, Cond.code yX4_lookAt cX4_lookAt 2 none, Cond.methodLink RX4 106 yX4_tip, Cond.instanceMethod yX4_tip]
def wsX4_waysToLie_r3 : List Cond := [Cond.selects RX4 yX4_tip yX4_tip, Cond.code yX4_tip cX4_tip 4 none, Cond.methodLink RX4 157 yX4_farOf, Cond.instanceMethod yX4_farOf, Cond.selects RX4 yX4_farOf yX4_farOf, Cond.code yX4_farOf cX4_farOf 2 (some .int)]
def wsX4_waysToLie : List Cond := .code yX4_waysToLie cX4_waysToLie 1 (some .int) :: ((wsX4_waysToLie_r1 ++ (wsX4_waysToLie_r2 ++ wsX4_waysToLie_r3)) ++ wsX40)
def wsX4_goOn : List Cond := .code yX4_goOn cX4_goOn 4 none :: ([.fieldLink RX4 41 "PaintedDieModel" "isNext" "[Z", .fieldLink RX4 52 "PaintedDieModel" "w" "I", .fieldLink RX4 59 "PaintedDieModel" "h" "I", .fieldLink RX4 38 "PaintedDieModel" "isOn" "[Z", .methodLink RX4 175 arraycopyName, .native arraycopyName, .static arraycopyName, .initialized "java/lang/System", .methodLink RX4 99 yX4_beside, .instanceMethod yX4_beside, .selects RX4 yX4_beside yX4_beside, .initialized RX4, .code yX4_beside cX4_beside 5 (some .int), .fieldLink RX4 9 "PaintedDieModel" "isWall" "[Z", .methodLink RX4 83 yX4_isCell, .instanceMethod yX4_isCell, .selects RX4 yX4_isCell yX4_isCell, .code yX4_isCell cX4_isCell 3 (some .boolean), .methodLink RX4 55 yX4_isIn, .static yX4_isIn, .code yX4_isIn cX4_isIn 3 (some .boolean)] ++ wsX40)
def wsX4_behind_r1 : List Cond := [Cond.fieldLink RX4 38 "PaintedDieModel" "isOn" "[Z", Cond.fieldLink RX4 77 "PaintedDieModel" "cell" "I", Cond.methodLink RX4 181 yX4_goOn, Cond.instanceMethod yX4_goOn, Cond.selects RX4 yX4_goOn yX4_goOn, Cond.initialized RX4, Cond.code yX4_goOn cX4_goOn 4 none, Cond.fieldLink RX4 41 "PaintedDieModel" "isNext" "[Z", Cond.fieldLink RX4 52 "PaintedDieModel" "w" "I", Cond.fieldLink RX4 59 "PaintedDieModel" "h" "I", Cond.methodLink RX4 175 arraycopyName, Cond.native arraycopyName, Cond.static arraycopyName, Cond.initialized "java/lang/System", Cond.methodLink RX4 99 yX4_beside, Cond.instanceMethod yX4_beside, Cond.selects RX4 yX4_beside yX4_beside, Cond.code yX4_beside cX4_beside 5 (some .int), Cond.fieldLink RX4 9 "PaintedDieModel" "isWall" "[Z", Cond.methodLink RX4 83 yX4_isCell, Cond.instanceMethod yX4_isCell, Cond.selects RX4 yX4_isCell yX4_isCell, Cond.code yX4_isCell cX4_isCell 3 (some .boolean), Cond.methodLink RX4 55 yX4_isIn]
def wsX4_behind_r2 : List Cond := [Cond.static yX4_isIn, Cond.code yX4_isIn cX4_isIn 3 (some .boolean)]
def wsX4_behind : List Cond := .code yX4_behind cX4_behind 7 (some .int) :: ((wsX4_behind_r1 ++ wsX4_behind_r2) ++ wsX40)
def wsX4_cellsBehind_r1 : List Cond := [Cond.fieldLink RX4 48 "PaintedDieModel" "thrown" "I", Cond.methodLink RX4 55 yX4_isIn, Cond.static yX4_isIn, Cond.initialized RX4, Cond.code yX4_isIn cX4_isIn 3 (some .boolean), Cond.methodLink RX4 184 yX4_behind, Cond.instanceMethod yX4_behind, Cond.selects RX4 yX4_behind yX4_behind, Cond.code yX4_behind cX4_behind 7 (some .int), Cond.fieldLink RX4 38 "PaintedDieModel" "isOn" "[Z", Cond.fieldLink RX4 77 "PaintedDieModel" "cell" "I", Cond.methodLink RX4 181 yX4_goOn, Cond.instanceMethod yX4_goOn, Cond.selects RX4 yX4_goOn yX4_goOn, Cond.code yX4_goOn cX4_goOn 4 none, Cond.fieldLink RX4 41 "PaintedDieModel" "isNext" "[Z", Cond.fieldLink RX4 52 "PaintedDieModel" "w" "I", Cond.fieldLink RX4 59 "PaintedDieModel" "h" "I", Cond.methodLink RX4 175 arraycopyName, Cond.native arraycopyName, Cond.static arraycopyName, Cond.initialized "java/lang/System", Cond.methodLink RX4 99 yX4_beside, Cond.instanceMethod yX4_beside]
def wsX4_cellsBehind_r2 : List Cond := [Cond.selects RX4 yX4_beside yX4_beside, Cond.code yX4_beside cX4_beside 5 (some .int), Cond.fieldLink RX4 9 "PaintedDieModel" "isWall" "[Z", Cond.methodLink RX4 83 yX4_isCell, Cond.instanceMethod yX4_isCell, Cond.selects RX4 yX4_isCell yX4_isCell, Cond.code yX4_isCell cX4_isCell 3 (some .boolean), Cond.methodLink RX4 109 yX4_no, Cond.instanceMethod yX4_no, Cond.selects RX4 yX4_no yX4_no, Cond.code yX4_no cX4_no 2 (some .int)]
def wsX4_cellsBehind : List Cond := .code yX4_cellsBehind cX4_cellsBehind 2 (some .int) :: ((wsX4_cellsBehind_r1 ++ wsX4_cellsBehind_r2) ++ wsX40)
def wsX4_best_r1 : List Cond := [Cond.fieldLink RX4 52 "PaintedDieModel" "w" "I", Cond.fieldLink RX4 59 "PaintedDieModel" "h" "I", Cond.fieldLink RX4 9 "PaintedDieModel" "isWall" "[Z", Cond.fieldLink RX4 77 "PaintedDieModel" "cell" "I", Cond.methodLink RX4 187 yX4_lookFirst, Cond.instanceMethod yX4_lookFirst, Cond.selects RX4 yX4_lookFirst yX4_lookFirst, Cond.initialized RX4, Cond.code yX4_lookFirst cX4_lookFirst 2 none, Cond.fieldLink RX4 87 "PaintedDieModel" "itsCell" "I", Cond.fieldLink RX4 90 "PaintedDieModel" "itsTop" "I", Cond.fieldLink RX4 93 "PaintedDieModel" "itsNorth" "I", Cond.fieldLink RX4 96 "PaintedDieModel" "itsEast" "I", Cond.methodLink RX4 160 yX4_spread, Cond.instanceMethod yX4_spread, Cond.selects RX4 yX4_spread yX4_spread, Cond.code yX4_spread cX4_spread 4 none, Cond.fieldLink RX4 23 "PaintedDieModel" "far" "[I", Cond.fieldLink RX4 147 "PaintedDieModel" "reached" "I", Cond.fieldLink RX4 26 "PaintedDieModel" "cells" "[I", Cond.methodLink RX4 150 yX4_reach, Cond.instanceMethod yX4_reach, Cond.selects RX4 yX4_reach yX4_reach, Cond.code yX4_reach cX4_reach 3 none]
def wsX4_best_r2 : List Cond := [Cond.fieldLink RX4 29 "PaintedDieModel" "tops" "[I", Cond.fieldLink RX4 32 "PaintedDieModel" "norths" "[I", Cond.fieldLink RX4 35 "PaintedDieModel" "easts" "[I", Cond.methodLink RX4 99 yX4_beside, Cond.instanceMethod yX4_beside, Cond.selects RX4 yX4_beside yX4_beside, Cond.code yX4_beside cX4_beside 5 (some .int), Cond.methodLink RX4 83 yX4_isCell, Cond.instanceMethod yX4_isCell, Cond.selects RX4 yX4_isCell yX4_isCell, Cond.code yX4_isCell cX4_isCell 3 (some .boolean), Cond.methodLink RX4 55 yX4_isIn, Cond.static yX4_isIn, Cond.code yX4_isIn cX4_isIn 3 (some .boolean), Cond.methodLink RX4 154 yX4_lookAt, Cond.instanceMethod yX4_lookAt, Cond.selects RX4 yX4_lookAt yX4_lookAt, Cond.code yX4_lookAt cX4_lookAt 2 none, Cond.methodLink RX4 106 yX4_tip, Cond.instanceMethod yX4_tip, Cond.selects RX4 yX4_tip yX4_tip, Cond.code yX4_tip cX4_tip 4 none, Cond.methodLink RX4 157 yX4_farOf, Cond.instanceMethod yX4_farOf]
def wsX4_best_r3 : List Cond := [Cond.selects RX4 yX4_farOf yX4_farOf, Cond.code yX4_farOf cX4_farOf 2 (some .int), Cond.methodLink RX4 163 yX4_fewestTo, Cond.instanceMethod yX4_fewestTo, Cond.selects RX4 yX4_fewestTo yX4_fewestTo, Cond.code yX4_fewestTo cX4_fewestTo 4 (some .int)]
def wsX4_best : List Cond := .code yX4_best cX4_best 6 (some .int) :: ((wsX4_best_r1 ++ (wsX4_best_r2 ++ wsX4_best_r3)) ++ wsX40)
def wsX4_bestPut_r1 : List Cond := [Cond.fieldLink RX4 48 "PaintedDieModel" "thrown" "I", Cond.methodLink RX4 117 yX4_isFace, Cond.static yX4_isFace, Cond.initialized RX4, Cond.code yX4_isFace cX4_isFace 1 (some .boolean), Cond.methodLink RX4 55 yX4_isIn, Cond.static yX4_isIn, Cond.code yX4_isIn cX4_isIn 3 (some .boolean), Cond.methodLink RX4 190 yX4_best, Cond.instanceMethod yX4_best, Cond.selects RX4 yX4_best yX4_best, Cond.code yX4_best cX4_best 6 (some .int), Cond.fieldLink RX4 52 "PaintedDieModel" "w" "I", Cond.fieldLink RX4 59 "PaintedDieModel" "h" "I", Cond.fieldLink RX4 9 "PaintedDieModel" "isWall" "[Z", Cond.fieldLink RX4 77 "PaintedDieModel" "cell" "I", Cond.methodLink RX4 187 yX4_lookFirst, Cond.instanceMethod yX4_lookFirst, Cond.selects RX4 yX4_lookFirst yX4_lookFirst, Cond.code yX4_lookFirst cX4_lookFirst 2 none, Cond.fieldLink RX4 87 "PaintedDieModel" "itsCell" "I", Cond.fieldLink RX4 90 "PaintedDieModel" "itsTop" "I", Cond.fieldLink RX4 93 "PaintedDieModel" "itsNorth" "I", Cond.fieldLink RX4 96 "PaintedDieModel" "itsEast" "I"]
def wsX4_bestPut_r2 : List Cond := [Cond.methodLink RX4 160 yX4_spread, Cond.instanceMethod yX4_spread, Cond.selects RX4 yX4_spread yX4_spread, Cond.code yX4_spread cX4_spread 4 none, Cond.fieldLink RX4 23 "PaintedDieModel" "far" "[I", Cond.fieldLink RX4 147 "PaintedDieModel" "reached" "I", Cond.fieldLink RX4 26 "PaintedDieModel" "cells" "[I", Cond.methodLink RX4 150 yX4_reach, Cond.instanceMethod yX4_reach, Cond.selects RX4 yX4_reach yX4_reach, Cond.code yX4_reach cX4_reach 3 none, Cond.fieldLink RX4 29 "PaintedDieModel" "tops" "[I", Cond.fieldLink RX4 32 "PaintedDieModel" "norths" "[I", Cond.fieldLink RX4 35 "PaintedDieModel" "easts" "[I", Cond.methodLink RX4 99 yX4_beside, Cond.instanceMethod yX4_beside, Cond.selects RX4 yX4_beside yX4_beside, Cond.code yX4_beside cX4_beside 5 (some .int), Cond.methodLink RX4 83 yX4_isCell, Cond.instanceMethod yX4_isCell, Cond.selects RX4 yX4_isCell yX4_isCell, Cond.code yX4_isCell cX4_isCell 3 (some .boolean), Cond.methodLink RX4 154 yX4_lookAt, Cond.instanceMethod yX4_lookAt]
def wsX4_bestPut_r3 : List Cond := [Cond.selects RX4 yX4_lookAt yX4_lookAt, Cond.code yX4_lookAt cX4_lookAt 2 none, Cond.methodLink RX4 106 yX4_tip, Cond.instanceMethod yX4_tip, Cond.selects RX4 yX4_tip yX4_tip, Cond.code yX4_tip cX4_tip 4 none, Cond.methodLink RX4 157 yX4_farOf, Cond.instanceMethod yX4_farOf, Cond.selects RX4 yX4_farOf yX4_farOf, Cond.code yX4_farOf cX4_farOf 2 (some .int), Cond.methodLink RX4 163 yX4_fewestTo, Cond.instanceMethod yX4_fewestTo, Cond.selects RX4 yX4_fewestTo yX4_fewestTo, Cond.code yX4_fewestTo cX4_fewestTo 4 (some .int), Cond.methodLink RX4 109 yX4_no, Cond.instanceMethod yX4_no, Cond.selects RX4 yX4_no yX4_no, Cond.code yX4_no cX4_no 2 (some .int)]
def wsX4_bestPut : List Cond := .code yX4_bestPut cX4_bestPut 2 (some .int) :: ((wsX4_bestPut_r1 ++ (wsX4_bestPut_r2 ++ wsX4_bestPut_r3)) ++ wsX40)
def wsX4_meanPaint : List Cond := .code yX4_meanPaint cX4_meanPaint 3 (some .double) :: ([.fieldLink RX4 48 "PaintedDieModel" "thrown" "I", .fieldLink RX4 20 "PaintedDieModel" "paint" "[I", .constantDouble RX4 193 (4618441417868443648)] ++ wsX40)
def wsX4_digest_r1 : List Cond := [Cond.fieldLink RX4 48 "PaintedDieModel" "thrown" "I", Cond.arrayClass .int, Cond.fieldLink RX4 52 "PaintedDieModel" "w" "I", Cond.fieldLink RX4 59 "PaintedDieModel" "h" "I", Cond.fieldLink RX4 71 "PaintedDieModel" "rolls" "I", Cond.fieldLink RX4 74 "PaintedDieModel" "prints" "I", Cond.fieldLink RX4 77 "PaintedDieModel" "cell" "I", Cond.fieldLink RX4 62 "PaintedDieModel" "top" "I", Cond.constantLong RX4 195 (1901), Cond.constantLong RX4 197 (31), Cond.fieldLink RX4 17 "PaintedDieModel" "colour" "[I", Cond.fieldLink RX4 20 "PaintedDieModel" "paint" "[I", Cond.fieldLink RX4 9 "PaintedDieModel" "isWall" "[Z", Cond.fieldLink RX4 13 "PaintedDieModel" "print" "[I", Cond.methodLink RX4 143 yX4_wallsThere, Cond.instanceMethod yX4_wallsThere, Cond.selects RX4 yX4_wallsThere yX4_wallsThere, Cond.initialized RX4, Cond.code yX4_wallsThere cX4_wallsThere 3 (some .int), Cond.methodLink RX4 140 yX4_side, Cond.instanceMethod yX4_side, Cond.selects RX4 yX4_side yX4_side, Cond.code yX4_side cX4_side 2 (some .int), Cond.fieldLink RX4 65 "PaintedDieModel" "north" "I"]
def wsX4_digest_r2 : List Cond := [Cond.fieldLink RX4 68 "PaintedDieModel" "east" "I", Cond.methodLink RX4 103 yX4_look, Cond.instanceMethod yX4_look, Cond.selects RX4 yX4_look yX4_look, Cond.code yX4_look cX4_look 1 none, Cond.fieldLink RX4 87 "PaintedDieModel" "itsCell" "I", Cond.fieldLink RX4 90 "PaintedDieModel" "itsTop" "I", Cond.fieldLink RX4 93 "PaintedDieModel" "itsNorth" "I", Cond.fieldLink RX4 96 "PaintedDieModel" "itsEast" "I", Cond.methodLink RX4 160 yX4_spread, Cond.instanceMethod yX4_spread, Cond.selects RX4 yX4_spread yX4_spread, Cond.code yX4_spread cX4_spread 4 none, Cond.fieldLink RX4 23 "PaintedDieModel" "far" "[I", Cond.fieldLink RX4 147 "PaintedDieModel" "reached" "I", Cond.fieldLink RX4 26 "PaintedDieModel" "cells" "[I", Cond.methodLink RX4 150 yX4_reach, Cond.instanceMethod yX4_reach, Cond.selects RX4 yX4_reach yX4_reach, Cond.code yX4_reach cX4_reach 3 none, Cond.fieldLink RX4 29 "PaintedDieModel" "tops" "[I", Cond.fieldLink RX4 32 "PaintedDieModel" "norths" "[I", Cond.fieldLink RX4 35 "PaintedDieModel" "easts" "[I", Cond.methodLink RX4 99 yX4_beside]
def wsX4_digest_r3 : List Cond := [Cond.instanceMethod yX4_beside, Cond.selects RX4 yX4_beside yX4_beside, Cond.code yX4_beside cX4_beside 5 (some .int), Cond.methodLink RX4 83 yX4_isCell, Cond.instanceMethod yX4_isCell, Cond.selects RX4 yX4_isCell yX4_isCell, Cond.code yX4_isCell cX4_isCell 3 (some .boolean), Cond.methodLink RX4 55 yX4_isIn, Cond.static yX4_isIn, Cond.code yX4_isIn cX4_isIn 3 (some .boolean), Cond.methodLink RX4 154 yX4_lookAt, Cond.instanceMethod yX4_lookAt, Cond.selects RX4 yX4_lookAt yX4_lookAt, Cond.code yX4_lookAt cX4_lookAt 2 none, Cond.methodLink RX4 106 yX4_tip, Cond.instanceMethod yX4_tip, Cond.selects RX4 yX4_tip yX4_tip, Cond.code yX4_tip cX4_tip 4 none, Cond.methodLink RX4 157 yX4_farOf, Cond.instanceMethod yX4_farOf, Cond.selects RX4 yX4_farOf yX4_farOf, Cond.code yX4_farOf cX4_farOf 2 (some .int), Cond.methodLink RX4 163 yX4_fewestTo, Cond.instanceMethod yX4_fewestTo]
def wsX4_digest_r4 : List Cond := [Cond.selects RX4 yX4_fewestTo yX4_fewestTo, Cond.code yX4_fewestTo cX4_fewestTo 4 (some .int), Cond.methodLink RX4 172 yX4_topsOn, Cond.instanceMethod yX4_topsOn, Cond.selects RX4 yX4_topsOn yX4_topsOn, Cond.code yX4_topsOn cX4_topsOn 4 (some .int)]
def wsX4_digest : List Cond := .code yX4_digest cX4_digest 8 (some .long) :: ((wsX4_digest_r1 ++ (wsX4_digest_r2 ++ (wsX4_digest_r3 ++ wsX4_digest_r4))) ++ wsX40)
def wsJ9_abs_0f7a4 : List Cond := .code yJ9_abs_0f7a4 cJ9_abs_0f7a4 1 (some .int) :: ([])
def wsJ9_min_7cf53 : List Cond := .code yJ9_min_7cf53 cJ9_min_7cf53 2 (some .int) :: ([])
def wsL_newBoard_r1 : List Cond := [Cond.classLink RL 13 "java/lang/IllegalArgumentException", Cond.methodLink RL 7 yX3_newBoard, Cond.instanceMethod yX3_newBoard, Cond.selects RX3 yX3_newBoard yX3_newBoard, Cond.initialized RX3, Cond.code yX3_newBoard cX3_newBoard 3 (some .int), Cond.classLink RX3 38 "java/lang/IllegalArgumentException", Cond.initialized "java/lang/IllegalArgumentException", Cond.methodLink RX3 34 yX3_isSide, Cond.static yX3_isSide, Cond.code yX3_isSide cX3_isSide 1 (some .boolean), Cond.methodLink RX3 30 yX3_startOn, Cond.instanceMethod yX3_startOn, Cond.selects RX3 yX3_startOn yX3_startOn, Cond.code yX3_startOn cX3_startOn 3 none, Cond.fieldLink RX3 12 "PaintedDie" "board" "LPaintedDie$Board;", Cond.fieldLink RX3 52 "PaintedDie" "cell" "I", Cond.fieldLink RX3 96 "PaintedDie" "turn" "I", Cond.fieldLink RX3 142 "PaintedDie" "rollsMade" "I", Cond.fieldLink RX3 145 "PaintedDie" "printsMade" "I", Cond.instanceMethod yX0_layOut, Cond.initialized RX0, Cond.selects RX0 yX0_layOut yX0_layOut, Cond.code yX0_layOut cX0_layOut 4 none]
def wsL_newBoard_r2 : List Cond := [Cond.fieldLink RX0 19 "PaintedDie$Board" "width" "I", Cond.fieldLink RX0 23 "PaintedDie$Board" "height" "I", Cond.fieldLink RX0 9 "PaintedDie$Board" "isWalled" "[Z", Cond.fieldLink RX0 15 "PaintedDie$Board" "printed" "[I"]
def wsL_newBoard : List Cond := .codeWith yL_newBoard cL_newBoard 5 (some .int) [(0, 10, 13, 13)] :: ((wsL_newBoard_r1 ++ wsL_newBoard_r2) ++ wsX30 ++ wsX00 ++ (vx_atS RX3 42 "java/lang/IllegalArgumentException" ["java/lang/RuntimeException", "java/lang/Exception"]).filter goodWord)
def wsL_turnWall_r1 : List Cond := [Cond.classLink RL 19 "java/lang/IndexOutOfBoundsException", Cond.classLink RL 21 "java/lang/IllegalStateException", Cond.methodLink RL 15 yX3_turnWall, Cond.instanceMethod yX3_turnWall, Cond.selects RX3 yX3_turnWall yX3_turnWall, Cond.initialized RX3, Cond.code yX3_turnWall cX3_turnWall 4 (some .boolean), Cond.classLink RX3 56 "java/lang/IllegalStateException", Cond.initialized "java/lang/IllegalStateException", Cond.fieldLink RX3 52 "PaintedDie" "cell" "I", Cond.fieldLink RX3 12 "PaintedDie" "board" "LPaintedDie$Board;", Cond.methodLink RX3 45 yX3_checkCell, Cond.instanceMethod yX3_checkCell, Cond.selects RX3 yX3_checkCell yX3_checkCell, Cond.code yX3_checkCell cX3_checkCell 3 none, Cond.classLink RX3 148 "java/lang/IndexOutOfBoundsException", Cond.initialized "java/lang/IndexOutOfBoundsException", Cond.instanceMethod yX0_has, Cond.initialized RX0, Cond.selects RX0 yX0_has yX0_has, Cond.code yX0_has cX0_has 3 (some .boolean), Cond.fieldLink RX0 19 "PaintedDie$Board" "width" "I", Cond.fieldLink RX0 23 "PaintedDie$Board" "height" "I", Cond.static yX0_cellAt]
def wsL_turnWall_r2 : List Cond := [Cond.code yX0_cellAt cX0_cellAt 2 (some .int), Cond.instanceMethod yX0_turnOver, Cond.selects RX0 yX0_turnOver yX0_turnOver, Cond.code yX0_turnOver cX0_turnOver 2 (some .boolean), Cond.fieldLink RX0 9 "PaintedDie$Board" "isWalled" "[Z"]
def wsL_turnWall : List Cond := .codeWith yL_turnWall cL_turnWall 5 (some .int) [(0, 17, 20, 19), (0, 17, 24, 21)] :: ((wsL_turnWall_r1 ++ wsL_turnWall_r2) ++ wsX30 ++ wsX00 ++ (vx_atS RX3 60 "java/lang/IllegalStateException" ["java/lang/RuntimeException", "java/lang/Exception"]).filter goodWord ++ (vx_atS RX3 152 "java/lang/IndexOutOfBoundsException" ["java/lang/RuntimeException", "java/lang/Exception"]).filter goodWord)
def wsL_setColour : List Cond := .codeWith yL_setColour cL_setColour 5 (some .int) [(0, 10, 13, 19), (0, 10, 17, 13)] :: ([.classLink RL 19 "java/lang/IndexOutOfBoundsException", .classLink RL 13 "java/lang/IllegalArgumentException", .methodLink RL 23 yX3_setColour, .instanceMethod yX3_setColour, .selects RX3 yX3_setColour yX3_setColour, .initialized RX3, .code yX3_setColour cX3_setColour 4 (some .int), .classLink RX3 38 "java/lang/IllegalArgumentException", .initialized "java/lang/IllegalArgumentException", .fieldLink RX3 23 "PaintedDie" "colours" "[I", .methodLink RX3 64 yX3_checkFace, .static yX3_checkFace, .code yX3_checkFace cX3_checkFace 1 none, .classLink RX3 148 "java/lang/IndexOutOfBoundsException", .initialized "java/lang/IndexOutOfBoundsException", .methodLink RX3 219 yX3_isFace, .static yX3_isFace, .code yX3_isFace cX3_isFace 1 (some .boolean)] ++ wsX30 ++ (vx_atS RX3 42 "java/lang/IllegalArgumentException" ["java/lang/RuntimeException", "java/lang/Exception"]).filter goodWord ++ (vx_atS RX3 152 "java/lang/IndexOutOfBoundsException" ["java/lang/RuntimeException", "java/lang/Exception"]).filter goodWord)
def wsL_addPaint : List Cond := .codeWith yL_addPaint cL_addPaint 5 (some .int) [(0, 10, 13, 19), (0, 10, 17, 13)] :: ([.classLink RL 19 "java/lang/IndexOutOfBoundsException", .classLink RL 13 "java/lang/IllegalArgumentException", .methodLink RL 26 yX3_addPaint, .instanceMethod yX3_addPaint, .selects RX3 yX3_addPaint yX3_addPaint, .initialized RX3, .code yX3_addPaint cX3_addPaint 3 (some .int), .classLink RX3 38 "java/lang/IllegalArgumentException", .initialized "java/lang/IllegalArgumentException", .fieldLink RX3 27 "PaintedDie" "paints" "[I", .methodLink RX3 72 Lib.Math.min.name, .static Lib.Math.min.name, .initialized "java/lang/Math", .code Lib.Math.min.name Lib.Math.min.code 2 (some .int), .methodLink RX3 64 yX3_checkFace, .static yX3_checkFace, .code yX3_checkFace cX3_checkFace 1 none, .classLink RX3 148 "java/lang/IndexOutOfBoundsException", .initialized "java/lang/IndexOutOfBoundsException", .methodLink RX3 219 yX3_isFace, .static yX3_isFace, .code yX3_isFace cX3_isFace 1 (some .boolean)] ++ wsX30 ++ (vx_atS RX3 42 "java/lang/IllegalArgumentException" ["java/lang/RuntimeException", "java/lang/Exception"]).filter goodWord ++ (vx_atS RX3 152 "java/lang/IndexOutOfBoundsException" ["java/lang/RuntimeException", "java/lang/Exception"]).filter goodWord)
def wsL_put_r1 : List Cond := [Cond.classLink RL 19 "java/lang/IndexOutOfBoundsException", Cond.classLink RL 21 "java/lang/IllegalStateException", Cond.methodLink RL 29 yX3_put, Cond.instanceMethod yX3_put, Cond.selects RX3 yX3_put yX3_put, Cond.initialized RX3, Cond.code yX3_put cX3_put 4 (some .int), Cond.classLink RX3 56 "java/lang/IllegalStateException", Cond.initialized "java/lang/IllegalStateException", Cond.fieldLink RX3 12 "PaintedDie" "board" "LPaintedDie$Board;", Cond.methodLink RX3 87 Lib.Math.abs.name, Cond.static Lib.Math.abs.name, Cond.initialized "java/lang/Math", Cond.code Lib.Math.abs.name Lib.Math.abs.code 1 (some .int), Cond.fieldLink RX3 52 "PaintedDie" "cell" "I", Cond.fieldLink RX3 96 "PaintedDie" "turn" "I", Cond.methodLink RX3 45 yX3_checkCell, Cond.instanceMethod yX3_checkCell, Cond.selects RX3 yX3_checkCell yX3_checkCell, Cond.code yX3_checkCell cX3_checkCell 3 none, Cond.classLink RX3 148 "java/lang/IndexOutOfBoundsException", Cond.initialized "java/lang/IndexOutOfBoundsException", Cond.instanceMethod yX0_has, Cond.initialized RX0]
def wsL_put_r2 : List Cond := [Cond.selects RX0 yX0_has yX0_has, Cond.code yX0_has cX0_has 3 (some .boolean), Cond.fieldLink RX0 19 "PaintedDie$Board" "width" "I", Cond.fieldLink RX0 23 "PaintedDie$Board" "height" "I", Cond.instanceMethod yX0_isFree, Cond.selects RX0 yX0_isFree yX0_isFree, Cond.code yX0_isFree cX0_isFree 3 (some .boolean), Cond.fieldLink RX0 9 "PaintedDie$Board" "isWalled" "[Z", Cond.methodLink RX0 26 yX0_has, Cond.methodLink RX0 30 yX0_cellAt, Cond.static yX0_cellAt, Cond.code yX0_cellAt cX0_cellAt 2 (some .int), Cond.methodLink RX3 83 yX3_column, Cond.instanceMethod yX3_column, Cond.selects RX3 yX3_column yX3_column, Cond.code yX3_column cX3_column 1 (some .int), Cond.static yX0_columnOf, Cond.code yX0_columnOf cX0_columnOf 1 (some .int), Cond.methodLink RX3 91 yX3_row, Cond.instanceMethod yX3_row, Cond.selects RX3 yX3_row yX3_row, Cond.code yX3_row cX3_row 1 (some .int), Cond.static yX0_rowOf, Cond.code yX0_rowOf cX0_rowOf 1 (some .int)]
def wsL_put : List Cond := .codeWith yL_put cL_put 5 (some .int) [(0, 10, 13, 19), (0, 10, 17, 21)] :: ((wsL_put_r1 ++ wsL_put_r2) ++ wsX30 ++ wsX00 ++ (vx_atS RX3 60 "java/lang/IllegalStateException" ["java/lang/RuntimeException", "java/lang/Exception"]).filter goodWord ++ (vx_atS RX3 152 "java/lang/IndexOutOfBoundsException" ["java/lang/RuntimeException", "java/lang/Exception"]).filter goodWord)
def wsL_roll_r1 : List Cond := [Cond.classLink RL 19 "java/lang/IndexOutOfBoundsException", Cond.classLink RL 21 "java/lang/IllegalStateException", Cond.methodLink RL 32 yX3_roll, Cond.instanceMethod yX3_roll, Cond.selects RX3 yX3_roll yX3_roll, Cond.initialized RX3, Cond.code yX3_roll cX3_roll 2 (some .int), Cond.classLink RX3 56 "java/lang/IllegalStateException", Cond.initialized "java/lang/IllegalStateException", Cond.methodLink RX3 99 yX3_checkDirection, Cond.static yX3_checkDirection, Cond.code yX3_checkDirection cX3_checkDirection 1 none, Cond.classLink RX3 148 "java/lang/IndexOutOfBoundsException", Cond.initialized "java/lang/IndexOutOfBoundsException", Cond.methodLink RX3 102 yX3_rollOnce, Cond.instanceMethod yX3_rollOnce, Cond.selects RX3 yX3_rollOnce yX3_rollOnce, Cond.code yX3_rollOnce cX3_rollOnce 3 (some .boolean), Cond.fieldLink RX3 12 "PaintedDie" "board" "LPaintedDie$Board;", Cond.fieldLink RX3 52 "PaintedDie" "cell" "I", Cond.fieldLink RX3 96 "PaintedDie" "turn" "I", Cond.fieldLink RX3 142 "PaintedDie" "rollsMade" "I", Cond.instanceMethod yX0_nextCell, Cond.initialized RX0]
def wsL_roll_r2 : List Cond := [Cond.selects RX0 yX0_nextCell yX0_nextCell, Cond.code yX0_nextCell cX0_nextCell 5 (some .int), Cond.methodLink RX0 34 yX0_columnOf, Cond.static yX0_columnOf, Cond.code yX0_columnOf cX0_columnOf 1 (some .int), Cond.methodLink RX0 38 yX0_rowOf, Cond.static yX0_rowOf, Cond.code yX0_rowOf cX0_rowOf 1 (some .int), Cond.methodLink RX0 41 yX0_isFree, Cond.instanceMethod yX0_isFree, Cond.selects RX0 yX0_isFree yX0_isFree, Cond.code yX0_isFree cX0_isFree 3 (some .boolean), Cond.fieldLink RX0 9 "PaintedDie$Board" "isWalled" "[Z", Cond.methodLink RX0 26 yX0_has, Cond.instanceMethod yX0_has, Cond.selects RX0 yX0_has yX0_has, Cond.code yX0_has cX0_has 3 (some .boolean), Cond.fieldLink RX0 19 "PaintedDie$Board" "width" "I", Cond.fieldLink RX0 23 "PaintedDie$Board" "height" "I", Cond.methodLink RX0 30 yX0_cellAt, Cond.static yX0_cellAt, Cond.code yX0_cellAt cX0_cellAt 2 (some .int), Cond.static yX2_behindRoll, Cond.initialized RX2]
def wsL_roll_r3 : List Cond := [Cond.code yX2_behindRoll cX2_behindRoll 4 (some .int), Cond.methodLink RX2 9 yX2_topOf, Cond.static yX2_topOf, Cond.code yX2_topOf cX2_topOf 1 (some .int), Cond.methodLink RX2 15 yX2_northOf, Cond.static yX2_northOf, Cond.code yX2_northOf cX2_northOf 1 (some .int), Cond.methodLink RX2 24 yX2_with, Cond.static yX2_with, Cond.code yX2_with cX2_with 2 (some .int), Cond.methodLink RX2 21 yX2_eastOf, Cond.static yX2_eastOf, Cond.code yX2_eastOf cX2_eastOf 5 (some .int), Cond.methodLink RX2 18 yX2_axisOf, Cond.static yX2_axisOf, Cond.code yX2_axisOf cX2_axisOf 1 (some .int), Cond.methodLink RX3 216 yX3_printHere, Cond.instanceMethod yX3_printHere, Cond.selects RX3 yX3_printHere yX3_printHere, Cond.code yX3_printHere cX3_printHere 2 none, Cond.fieldLink RX3 27 "PaintedDie" "paints" "[I", Cond.fieldLink RX3 23 "PaintedDie" "colours" "[I", Cond.fieldLink RX3 145 "PaintedDie" "printsMade" "I", Cond.methodLink RX3 107 yX3_bottom]
def wsL_roll_r4 : List Cond := [Cond.instanceMethod yX3_bottom, Cond.selects RX3 yX3_bottom yX3_bottom, Cond.code yX3_bottom cX3_bottom 1 (some .int), Cond.methodLink RX3 121 yX3_top, Cond.instanceMethod yX3_top, Cond.selects RX3 yX3_top yX3_top, Cond.code yX3_top cX3_top 1 (some .int), Cond.methodLink RX3 219 yX3_isFace, Cond.static yX3_isFace, Cond.code yX3_isFace cX3_isFace 1 (some .boolean), Cond.instanceMethod yX0_printOnto, Cond.selects RX0 yX0_printOnto yX0_printOnto, Cond.code yX0_printOnto cX0_printOnto 3 none, Cond.fieldLink RX0 15 "PaintedDie$Board" "printed" "[I"]
def wsL_roll : List Cond := .codeWith yL_roll cL_roll 4 (some .int) [(0, 9, 12, 19), (0, 9, 15, 21)] :: ((wsL_roll_r1 ++ (wsL_roll_r2 ++ (wsL_roll_r3 ++ wsL_roll_r4))) ++ wsX30 ++ wsX00 ++ (vx_atS RX3 60 "java/lang/IllegalStateException" ["java/lang/RuntimeException", "java/lang/Exception"]).filter goodWord ++ (vx_atS RX3 152 "java/lang/IndexOutOfBoundsException" ["java/lang/RuntimeException", "java/lang/Exception"]).filter goodWord)
def wsL_rollOn_r1 : List Cond := [Cond.classLink RL 19 "java/lang/IndexOutOfBoundsException", Cond.classLink RL 13 "java/lang/IllegalArgumentException", Cond.methodLink RL 36 yX3_rollOn, Cond.instanceMethod yX3_rollOn, Cond.selects RX3 yX3_rollOn yX3_rollOn, Cond.initialized RX3, Cond.code yX3_rollOn cX3_rollOn 4 (some .int), Cond.classLink RX3 38 "java/lang/IllegalArgumentException", Cond.initialized "java/lang/IllegalArgumentException", Cond.methodLink RX3 99 yX3_checkDirection, Cond.static yX3_checkDirection, Cond.code yX3_checkDirection cX3_checkDirection 1 none, Cond.classLink RX3 148 "java/lang/IndexOutOfBoundsException", Cond.initialized "java/lang/IndexOutOfBoundsException", Cond.methodLink RX3 102 yX3_rollOnce, Cond.instanceMethod yX3_rollOnce, Cond.selects RX3 yX3_rollOnce yX3_rollOnce, Cond.code yX3_rollOnce cX3_rollOnce 3 (some .boolean), Cond.fieldLink RX3 12 "PaintedDie" "board" "LPaintedDie$Board;", Cond.fieldLink RX3 52 "PaintedDie" "cell" "I", Cond.fieldLink RX3 96 "PaintedDie" "turn" "I", Cond.fieldLink RX3 142 "PaintedDie" "rollsMade" "I", Cond.instanceMethod yX0_nextCell, Cond.initialized RX0]
def wsL_rollOn_r2 : List Cond := [Cond.selects RX0 yX0_nextCell yX0_nextCell, Cond.code yX0_nextCell cX0_nextCell 5 (some .int), Cond.methodLink RX0 34 yX0_columnOf, Cond.static yX0_columnOf, Cond.code yX0_columnOf cX0_columnOf 1 (some .int), Cond.methodLink RX0 38 yX0_rowOf, Cond.static yX0_rowOf, Cond.code yX0_rowOf cX0_rowOf 1 (some .int), Cond.methodLink RX0 41 yX0_isFree, Cond.instanceMethod yX0_isFree, Cond.selects RX0 yX0_isFree yX0_isFree, Cond.code yX0_isFree cX0_isFree 3 (some .boolean), Cond.fieldLink RX0 9 "PaintedDie$Board" "isWalled" "[Z", Cond.methodLink RX0 26 yX0_has, Cond.instanceMethod yX0_has, Cond.selects RX0 yX0_has yX0_has, Cond.code yX0_has cX0_has 3 (some .boolean), Cond.fieldLink RX0 19 "PaintedDie$Board" "width" "I", Cond.fieldLink RX0 23 "PaintedDie$Board" "height" "I", Cond.methodLink RX0 30 yX0_cellAt, Cond.static yX0_cellAt, Cond.code yX0_cellAt cX0_cellAt 2 (some .int), Cond.static yX2_behindRoll, Cond.initialized RX2]
def wsL_rollOn_r3 : List Cond := [Cond.code yX2_behindRoll cX2_behindRoll 4 (some .int), Cond.methodLink RX2 9 yX2_topOf, Cond.static yX2_topOf, Cond.code yX2_topOf cX2_topOf 1 (some .int), Cond.methodLink RX2 15 yX2_northOf, Cond.static yX2_northOf, Cond.code yX2_northOf cX2_northOf 1 (some .int), Cond.methodLink RX2 24 yX2_with, Cond.static yX2_with, Cond.code yX2_with cX2_with 2 (some .int), Cond.methodLink RX2 21 yX2_eastOf, Cond.static yX2_eastOf, Cond.code yX2_eastOf cX2_eastOf 5 (some .int), Cond.methodLink RX2 18 yX2_axisOf, Cond.static yX2_axisOf, Cond.code yX2_axisOf cX2_axisOf 1 (some .int), Cond.methodLink RX3 216 yX3_printHere, Cond.instanceMethod yX3_printHere, Cond.selects RX3 yX3_printHere yX3_printHere, Cond.code yX3_printHere cX3_printHere 2 none, Cond.fieldLink RX3 27 "PaintedDie" "paints" "[I", Cond.fieldLink RX3 23 "PaintedDie" "colours" "[I", Cond.fieldLink RX3 145 "PaintedDie" "printsMade" "I", Cond.methodLink RX3 107 yX3_bottom]
def wsL_rollOn_r4 : List Cond := [Cond.instanceMethod yX3_bottom, Cond.selects RX3 yX3_bottom yX3_bottom, Cond.code yX3_bottom cX3_bottom 1 (some .int), Cond.methodLink RX3 121 yX3_top, Cond.instanceMethod yX3_top, Cond.selects RX3 yX3_top yX3_top, Cond.code yX3_top cX3_top 1 (some .int), Cond.methodLink RX3 219 yX3_isFace, Cond.static yX3_isFace, Cond.code yX3_isFace cX3_isFace 1 (some .boolean), Cond.instanceMethod yX0_printOnto, Cond.selects RX0 yX0_printOnto yX0_printOnto, Cond.code yX0_printOnto cX0_printOnto 3 none, Cond.fieldLink RX0 15 "PaintedDie$Board" "printed" "[I"]
def wsL_rollOn : List Cond := .codeWith yL_rollOn cL_rollOn 5 (some .int) [(0, 10, 13, 19), (0, 10, 17, 13)] :: ((wsL_rollOn_r1 ++ (wsL_rollOn_r2 ++ (wsL_rollOn_r3 ++ wsL_rollOn_r4))) ++ wsX30 ++ wsX00 ++ (vx_atS RX3 42 "java/lang/IllegalArgumentException" ["java/lang/RuntimeException", "java/lang/Exception"]).filter goodWord ++ (vx_atS RX3 152 "java/lang/IndexOutOfBoundsException" ["java/lang/RuntimeException", "java/lang/Exception"]).filter goodWord)
def wsL_faceTo_r1 : List Cond := [Cond.classLink RL 19 "java/lang/IndexOutOfBoundsException", Cond.methodLink RL 39 yX3_faceTo, Cond.instanceMethod yX3_faceTo, Cond.selects RX3 yX3_faceTo yX3_faceTo, Cond.initialized RX3, Cond.code yX3_faceTo cX3_faceTo 2 (some .int), Cond.fieldLink RX3 96 "PaintedDie" "turn" "I", Cond.methodLink RX3 99 yX3_checkDirection, Cond.static yX3_checkDirection, Cond.code yX3_checkDirection cX3_checkDirection 1 none, Cond.classLink RX3 148 "java/lang/IndexOutOfBoundsException", Cond.initialized "java/lang/IndexOutOfBoundsException", Cond.static yX2_faceOn, Cond.initialized RX2, Cond.code yX2_faceOn cX2_faceOn 2 (some .int), Cond.methodLink RX2 15 yX2_northOf, Cond.static yX2_northOf, Cond.code yX2_northOf cX2_northOf 1 (some .int), Cond.methodLink RX2 21 yX2_eastOf, Cond.static yX2_eastOf, Cond.code yX2_eastOf cX2_eastOf 5 (some .int), Cond.methodLink RX2 9 yX2_topOf, Cond.static yX2_topOf, Cond.code yX2_topOf cX2_topOf 1 (some .int)]
def wsL_faceTo_r2 : List Cond := [Cond.methodLink RX2 18 yX2_axisOf, Cond.static yX2_axisOf, Cond.code yX2_axisOf cX2_axisOf 1 (some .int)]
def wsL_faceTo : List Cond := .codeWith yL_faceTo cL_faceTo 4 (some .int) [(0, 9, 12, 19)] :: ((wsL_faceTo_r1 ++ wsL_faceTo_r2) ++ wsX30 ++ (vx_atS RX3 152 "java/lang/IndexOutOfBoundsException" ["java/lang/RuntimeException", "java/lang/Exception"]).filter goodWord)
def wsL_colourOf : List Cond := .codeWith yL_colourOf cL_colourOf 4 (some .int) [(0, 9, 12, 19)] :: ([.classLink RL 19 "java/lang/IndexOutOfBoundsException", .methodLink RL 42 yX3_colourOf, .instanceMethod yX3_colourOf, .selects RX3 yX3_colourOf yX3_colourOf, .initialized RX3, .code yX3_colourOf cX3_colourOf 2 (some .int), .fieldLink RX3 23 "PaintedDie" "colours" "[I", .methodLink RX3 64 yX3_checkFace, .static yX3_checkFace, .code yX3_checkFace cX3_checkFace 1 none, .classLink RX3 148 "java/lang/IndexOutOfBoundsException", .initialized "java/lang/IndexOutOfBoundsException", .methodLink RX3 219 yX3_isFace, .static yX3_isFace, .code yX3_isFace cX3_isFace 1 (some .boolean)] ++ wsX30 ++ (vx_atS RX3 152 "java/lang/IndexOutOfBoundsException" ["java/lang/RuntimeException", "java/lang/Exception"]).filter goodWord)
def wsL_paintOf : List Cond := .codeWith yL_paintOf cL_paintOf 4 (some .int) [(0, 9, 12, 19)] :: ([.classLink RL 19 "java/lang/IndexOutOfBoundsException", .methodLink RL 45 yX3_paintOf, .instanceMethod yX3_paintOf, .selects RX3 yX3_paintOf yX3_paintOf, .initialized RX3, .code yX3_paintOf cX3_paintOf 2 (some .int), .fieldLink RX3 27 "PaintedDie" "paints" "[I", .methodLink RX3 64 yX3_checkFace, .static yX3_checkFace, .code yX3_checkFace cX3_checkFace 1 none, .classLink RX3 148 "java/lang/IndexOutOfBoundsException", .initialized "java/lang/IndexOutOfBoundsException", .methodLink RX3 219 yX3_isFace, .static yX3_isFace, .code yX3_isFace cX3_isFace 1 (some .boolean)] ++ wsX30 ++ (vx_atS RX3 152 "java/lang/IndexOutOfBoundsException" ["java/lang/RuntimeException", "java/lang/Exception"]).filter goodWord)
def wsL_isWall_r1 : List Cond := [Cond.classLink RL 19 "java/lang/IndexOutOfBoundsException", Cond.methodLink RL 48 yX3_isWall, Cond.instanceMethod yX3_isWall, Cond.selects RX3 yX3_isWall yX3_isWall, Cond.initialized RX3, Cond.code yX3_isWall cX3_isWall 3 (some .boolean), Cond.fieldLink RX3 12 "PaintedDie" "board" "LPaintedDie$Board;", Cond.methodLink RX3 45 yX3_checkCell, Cond.instanceMethod yX3_checkCell, Cond.selects RX3 yX3_checkCell yX3_checkCell, Cond.code yX3_checkCell cX3_checkCell 3 none, Cond.classLink RX3 148 "java/lang/IndexOutOfBoundsException", Cond.initialized "java/lang/IndexOutOfBoundsException", Cond.instanceMethod yX0_has, Cond.initialized RX0, Cond.selects RX0 yX0_has yX0_has, Cond.code yX0_has cX0_has 3 (some .boolean), Cond.fieldLink RX0 19 "PaintedDie$Board" "width" "I", Cond.fieldLink RX0 23 "PaintedDie$Board" "height" "I", Cond.instanceMethod yX0_isFree, Cond.selects RX0 yX0_isFree yX0_isFree, Cond.code yX0_isFree cX0_isFree 3 (some .boolean), Cond.fieldLink RX0 9 "PaintedDie$Board" "isWalled" "[Z", Cond.methodLink RX0 26 yX0_has]
def wsL_isWall_r2 : List Cond := [Cond.methodLink RX0 30 yX0_cellAt, Cond.static yX0_cellAt, Cond.code yX0_cellAt cX0_cellAt 2 (some .int)]
def wsL_isWall : List Cond := .codeWith yL_isWall cL_isWall 5 (some .int) [(0, 17, 20, 19)] :: ((wsL_isWall_r1 ++ wsL_isWall_r2) ++ wsX30 ++ wsX00 ++ (vx_atS RX3 152 "java/lang/IndexOutOfBoundsException" ["java/lang/RuntimeException", "java/lang/Exception"]).filter goodWord)
def wsL_printAt_r1 : List Cond := [Cond.classLink RL 19 "java/lang/IndexOutOfBoundsException", Cond.methodLink RL 51 yX3_printAt, Cond.instanceMethod yX3_printAt, Cond.selects RX3 yX3_printAt yX3_printAt, Cond.initialized RX3, Cond.code yX3_printAt cX3_printAt 3 (some .int), Cond.fieldLink RX3 12 "PaintedDie" "board" "LPaintedDie$Board;", Cond.methodLink RX3 45 yX3_checkCell, Cond.instanceMethod yX3_checkCell, Cond.selects RX3 yX3_checkCell yX3_checkCell, Cond.code yX3_checkCell cX3_checkCell 3 none, Cond.classLink RX3 148 "java/lang/IndexOutOfBoundsException", Cond.initialized "java/lang/IndexOutOfBoundsException", Cond.instanceMethod yX0_has, Cond.initialized RX0, Cond.selects RX0 yX0_has yX0_has, Cond.code yX0_has cX0_has 3 (some .boolean), Cond.fieldLink RX0 19 "PaintedDie$Board" "width" "I", Cond.fieldLink RX0 23 "PaintedDie$Board" "height" "I", Cond.instanceMethod yX0_printOn, Cond.selects RX0 yX0_printOn yX0_printOn, Cond.code yX0_printOn cX0_printOn 3 (some .int), Cond.fieldLink RX0 15 "PaintedDie$Board" "printed" "[I", Cond.methodLink RX0 26 yX0_has]
def wsL_printAt_r2 : List Cond := [Cond.methodLink RX0 30 yX0_cellAt, Cond.static yX0_cellAt, Cond.code yX0_cellAt cX0_cellAt 2 (some .int)]
def wsL_printAt : List Cond := .codeWith yL_printAt cL_printAt 5 (some .int) [(0, 10, 13, 19)] :: ((wsL_printAt_r1 ++ wsL_printAt_r2) ++ wsX30 ++ wsX00 ++ (vx_atS RX3 152 "java/lang/IndexOutOfBoundsException" ["java/lang/RuntimeException", "java/lang/Exception"]).filter goodWord)
def wsL_canRoll_r1 : List Cond := [Cond.classLink RL 19 "java/lang/IndexOutOfBoundsException", Cond.methodLink RL 54 yX3_canRoll, Cond.instanceMethod yX3_canRoll, Cond.selects RX3 yX3_canRoll yX3_canRoll, Cond.initialized RX3, Cond.code yX3_canRoll cX3_canRoll 2 (some .boolean), Cond.fieldLink RX3 12 "PaintedDie" "board" "LPaintedDie$Board;", Cond.fieldLink RX3 52 "PaintedDie" "cell" "I", Cond.methodLink RX3 99 yX3_checkDirection, Cond.static yX3_checkDirection, Cond.code yX3_checkDirection cX3_checkDirection 1 none, Cond.classLink RX3 148 "java/lang/IndexOutOfBoundsException", Cond.initialized "java/lang/IndexOutOfBoundsException", Cond.instanceMethod yX0_nextCell, Cond.initialized RX0, Cond.selects RX0 yX0_nextCell yX0_nextCell, Cond.code yX0_nextCell cX0_nextCell 5 (some .int), Cond.methodLink RX0 34 yX0_columnOf, Cond.static yX0_columnOf, Cond.code yX0_columnOf cX0_columnOf 1 (some .int), Cond.methodLink RX0 38 yX0_rowOf, Cond.static yX0_rowOf, Cond.code yX0_rowOf cX0_rowOf 1 (some .int), Cond.methodLink RX0 41 yX0_isFree]
def wsL_canRoll_r2 : List Cond := [Cond.instanceMethod yX0_isFree, Cond.selects RX0 yX0_isFree yX0_isFree, Cond.code yX0_isFree cX0_isFree 3 (some .boolean), Cond.fieldLink RX0 9 "PaintedDie$Board" "isWalled" "[Z", Cond.methodLink RX0 26 yX0_has, Cond.instanceMethod yX0_has, Cond.selects RX0 yX0_has yX0_has, Cond.code yX0_has cX0_has 3 (some .boolean), Cond.fieldLink RX0 19 "PaintedDie$Board" "width" "I", Cond.fieldLink RX0 23 "PaintedDie$Board" "height" "I", Cond.methodLink RX0 30 yX0_cellAt, Cond.static yX0_cellAt, Cond.code yX0_cellAt cX0_cellAt 2 (some .int)]
def wsL_canRoll : List Cond := .codeWith yL_canRoll cL_canRoll 4 (some .int) [(0, 16, 19, 19)] :: ((wsL_canRoll_r1 ++ wsL_canRoll_r2) ++ wsX30 ++ wsX00 ++ (vx_atS RX3 152 "java/lang/IndexOutOfBoundsException" ["java/lang/RuntimeException", "java/lang/Exception"]).filter goodWord)
def wsL_cellsWith_r1 : List Cond := [Cond.classLink RL 19 "java/lang/IndexOutOfBoundsException", Cond.methodLink RL 58 yX3_cellsWith, Cond.instanceMethod yX3_cellsWith, Cond.selects RX3 yX3_cellsWith yX3_cellsWith, Cond.initialized RX3, Cond.code yX3_cellsWith cX3_cellsWith 2 (some .int), Cond.classLink RX3 148 "java/lang/IndexOutOfBoundsException", Cond.initialized "java/lang/IndexOutOfBoundsException", Cond.fieldLink RX3 12 "PaintedDie" "board" "LPaintedDie$Board;", Cond.instanceMethod yX0_countPrints, Cond.initialized RX0, Cond.selects RX0 yX0_countPrints yX0_countPrints, Cond.code yX0_countPrints cX0_countPrints 5 (some .int), Cond.fieldLink RX0 23 "PaintedDie$Board" "height" "I", Cond.fieldLink RX0 19 "PaintedDie$Board" "width" "I", Cond.methodLink RX0 44 yX0_printOn, Cond.instanceMethod yX0_printOn, Cond.selects RX0 yX0_printOn yX0_printOn, Cond.code yX0_printOn cX0_printOn 3 (some .int), Cond.fieldLink RX0 15 "PaintedDie$Board" "printed" "[I", Cond.methodLink RX0 26 yX0_has, Cond.instanceMethod yX0_has, Cond.selects RX0 yX0_has yX0_has, Cond.code yX0_has cX0_has 3 (some .boolean)]
def wsL_cellsWith_r2 : List Cond := [Cond.methodLink RX0 30 yX0_cellAt, Cond.static yX0_cellAt, Cond.code yX0_cellAt cX0_cellAt 2 (some .int)]
def wsL_cellsWith : List Cond := .codeWith yL_cellsWith cL_cellsWith 4 (some .int) [(0, 9, 12, 19)] :: ((wsL_cellsWith_r1 ++ wsL_cellsWith_r2) ++ wsX30 ++ wsX00 ++ (vx_atS RX3 152 "java/lang/IndexOutOfBoundsException" ["java/lang/RuntimeException", "java/lang/Exception"]).filter goodWord)
def wsL_fewestRolls_r1 : List Cond := [Cond.classLink RL 19 "java/lang/IndexOutOfBoundsException", Cond.methodLink RL 61 yX3_fewestRolls, Cond.instanceMethod yX3_fewestRolls, Cond.selects RX3 yX3_fewestRolls yX3_fewestRolls, Cond.initialized RX3, Cond.code yX3_fewestRolls cX3_fewestRolls 3 (some .int), Cond.fieldLink RX3 19 "PaintedDie" "search" "LPaintedDie$Search;", Cond.methodLink RX3 45 yX3_checkCell, Cond.instanceMethod yX3_checkCell, Cond.selects RX3 yX3_checkCell yX3_checkCell, Cond.code yX3_checkCell cX3_checkCell 3 none, Cond.classLink RX3 148 "java/lang/IndexOutOfBoundsException", Cond.initialized "java/lang/IndexOutOfBoundsException", Cond.fieldLink RX3 12 "PaintedDie" "board" "LPaintedDie$Board;", Cond.instanceMethod yX0_has, Cond.initialized RX0, Cond.selects RX0 yX0_has yX0_has, Cond.code yX0_has cX0_has 3 (some .boolean), Cond.fieldLink RX0 19 "PaintedDie$Board" "width" "I", Cond.fieldLink RX0 23 "PaintedDie$Board" "height" "I", Cond.methodLink RX3 156 yX3_searchFromHere, Cond.instanceMethod yX3_searchFromHere, Cond.selects RX3 yX3_searchFromHere yX3_searchFromHere, Cond.code yX3_searchFromHere cX3_searchFromHere 1 none]
def wsL_fewestRolls_r2 : List Cond := [Cond.fieldLink RX3 52 "PaintedDie" "cell" "I", Cond.fieldLink RX3 96 "PaintedDie" "turn" "I", Cond.instanceMethod yX1_forget, Cond.initialized RX1, Cond.selects RX1 yX1_forget yX1_forget, Cond.code yX1_forget cX1_forget 1 none, Cond.fieldLink RX1 11 "PaintedDie$Search" "fewest" "[I", Cond.fieldLink RX1 26 "PaintedDie$Search" "found" "I", Cond.methodLink RX1 20 yJ7_fill_53178, Cond.static yJ7_fill_53178, Cond.initialized RJ7, Cond.code yJ7_fill_53178 cJ7_fill_53178 4 none, Cond.instanceMethod yX1_reach, Cond.selects RX1 yX1_reach yX1_reach, Cond.code yX1_reach cX1_reach 5 none, Cond.fieldLink RX1 17 "PaintedDie$Search" "queue" "[I", Cond.instanceMethod yX1_spread, Cond.selects RX1 yX1_spread yX1_spread, Cond.code yX1_spread cX1_spread 8 none, Cond.methodLink RX1 30 yX1_rollsAt, Cond.instanceMethod yX1_rollsAt, Cond.selects RX1 yX1_rollsAt yX1_rollsAt, Cond.code yX1_rollsAt cX1_rollsAt 4 (some .int), Cond.instanceMethod yX0_nextCell]
def wsL_fewestRolls_r3 : List Cond := [Cond.selects RX0 yX0_nextCell yX0_nextCell, Cond.code yX0_nextCell cX0_nextCell 5 (some .int), Cond.methodLink RX0 34 yX0_columnOf, Cond.static yX0_columnOf, Cond.code yX0_columnOf cX0_columnOf 1 (some .int), Cond.methodLink RX0 38 yX0_rowOf, Cond.static yX0_rowOf, Cond.code yX0_rowOf cX0_rowOf 1 (some .int), Cond.methodLink RX0 41 yX0_isFree, Cond.instanceMethod yX0_isFree, Cond.selects RX0 yX0_isFree yX0_isFree, Cond.code yX0_isFree cX0_isFree 3 (some .boolean), Cond.fieldLink RX0 9 "PaintedDie$Board" "isWalled" "[Z", Cond.methodLink RX0 26 yX0_has, Cond.methodLink RX0 30 yX0_cellAt, Cond.static yX0_cellAt, Cond.code yX0_cellAt cX0_cellAt 2 (some .int), Cond.static yX2_behindRoll, Cond.initialized RX2, Cond.code yX2_behindRoll cX2_behindRoll 4 (some .int), Cond.methodLink RX2 9 yX2_topOf, Cond.static yX2_topOf, Cond.code yX2_topOf cX2_topOf 1 (some .int), Cond.methodLink RX2 15 yX2_northOf]
def wsL_fewestRolls_r4 : List Cond := [Cond.static yX2_northOf, Cond.code yX2_northOf cX2_northOf 1 (some .int), Cond.methodLink RX2 24 yX2_with, Cond.static yX2_with, Cond.code yX2_with cX2_with 2 (some .int), Cond.methodLink RX2 21 yX2_eastOf, Cond.static yX2_eastOf, Cond.code yX2_eastOf cX2_eastOf 5 (some .int), Cond.methodLink RX2 18 yX2_axisOf, Cond.static yX2_axisOf, Cond.code yX2_axisOf cX2_axisOf 1 (some .int), Cond.methodLink RX1 42 yX1_reach, Cond.instanceMethod yX1_fewestTo, Cond.selects RX1 yX1_fewestTo yX1_fewestTo, Cond.code yX1_fewestTo cX1_fewestTo 4 (some .int), Cond.methodLink RX1 52 yX1_fewestWithTop, Cond.instanceMethod yX1_fewestWithTop, Cond.selects RX1 yX1_fewestWithTop yX1_fewestWithTop, Cond.code yX1_fewestWithTop cX1_fewestWithTop 5 (some .int), Cond.methodLink RX1 49 yX1_fewerOf, Cond.static yX1_fewerOf, Cond.code yX1_fewerOf cX1_fewerOf 2 (some .int), Cond.methodLink RX1 55 Lib.Math.min.name, Cond.static Lib.Math.min.name]
def wsL_fewestRolls_r5 : List Cond := [Cond.initialized "java/lang/Math", Cond.code Lib.Math.min.name Lib.Math.min.code 2 (some .int)]
def wsL_fewestRolls : List Cond := .codeWith yL_fewestRolls cL_fewestRolls 5 (some .int) [(0, 10, 13, 19)] :: ((wsL_fewestRolls_r1 ++ (wsL_fewestRolls_r2 ++ (wsL_fewestRolls_r3 ++ (wsL_fewestRolls_r4 ++ wsL_fewestRolls_r5)))) ++ wsX30 ++ wsX00 ++ wsX10 ++ (vx_atS RX3 152 "java/lang/IndexOutOfBoundsException" ["java/lang/RuntimeException", "java/lang/Exception"]).filter goodWord)
def wsL_fewestRollsWithTop_r1 : List Cond := [Cond.classLink RL 19 "java/lang/IndexOutOfBoundsException", Cond.methodLink RL 64 yX3_fewestRollsWithTop, Cond.instanceMethod yX3_fewestRollsWithTop, Cond.selects RX3 yX3_fewestRollsWithTop yX3_fewestRollsWithTop, Cond.initialized RX3, Cond.code yX3_fewestRollsWithTop cX3_fewestRollsWithTop 4 (some .int), Cond.fieldLink RX3 19 "PaintedDie" "search" "LPaintedDie$Search;", Cond.methodLink RX3 45 yX3_checkCell, Cond.instanceMethod yX3_checkCell, Cond.selects RX3 yX3_checkCell yX3_checkCell, Cond.code yX3_checkCell cX3_checkCell 3 none, Cond.classLink RX3 148 "java/lang/IndexOutOfBoundsException", Cond.initialized "java/lang/IndexOutOfBoundsException", Cond.fieldLink RX3 12 "PaintedDie" "board" "LPaintedDie$Board;", Cond.instanceMethod yX0_has, Cond.initialized RX0, Cond.selects RX0 yX0_has yX0_has, Cond.code yX0_has cX0_has 3 (some .boolean), Cond.fieldLink RX0 19 "PaintedDie$Board" "width" "I", Cond.fieldLink RX0 23 "PaintedDie$Board" "height" "I", Cond.methodLink RX3 64 yX3_checkFace, Cond.static yX3_checkFace, Cond.code yX3_checkFace cX3_checkFace 1 none, Cond.methodLink RX3 219 yX3_isFace]
def wsL_fewestRollsWithTop_r2 : List Cond := [Cond.static yX3_isFace, Cond.code yX3_isFace cX3_isFace 1 (some .boolean), Cond.methodLink RX3 156 yX3_searchFromHere, Cond.instanceMethod yX3_searchFromHere, Cond.selects RX3 yX3_searchFromHere yX3_searchFromHere, Cond.code yX3_searchFromHere cX3_searchFromHere 1 none, Cond.fieldLink RX3 52 "PaintedDie" "cell" "I", Cond.fieldLink RX3 96 "PaintedDie" "turn" "I", Cond.instanceMethod yX1_forget, Cond.initialized RX1, Cond.selects RX1 yX1_forget yX1_forget, Cond.code yX1_forget cX1_forget 1 none, Cond.fieldLink RX1 11 "PaintedDie$Search" "fewest" "[I", Cond.fieldLink RX1 26 "PaintedDie$Search" "found" "I", Cond.methodLink RX1 20 yJ7_fill_53178, Cond.static yJ7_fill_53178, Cond.initialized RJ7, Cond.code yJ7_fill_53178 cJ7_fill_53178 4 none, Cond.instanceMethod yX1_reach, Cond.selects RX1 yX1_reach yX1_reach, Cond.code yX1_reach cX1_reach 5 none, Cond.fieldLink RX1 17 "PaintedDie$Search" "queue" "[I", Cond.instanceMethod yX1_spread, Cond.selects RX1 yX1_spread yX1_spread]
def wsL_fewestRollsWithTop_r3 : List Cond := [Cond.code yX1_spread cX1_spread 8 none, Cond.methodLink RX1 30 yX1_rollsAt, Cond.instanceMethod yX1_rollsAt, Cond.selects RX1 yX1_rollsAt yX1_rollsAt, Cond.code yX1_rollsAt cX1_rollsAt 4 (some .int), Cond.instanceMethod yX0_nextCell, Cond.selects RX0 yX0_nextCell yX0_nextCell, Cond.code yX0_nextCell cX0_nextCell 5 (some .int), Cond.methodLink RX0 34 yX0_columnOf, Cond.static yX0_columnOf, Cond.code yX0_columnOf cX0_columnOf 1 (some .int), Cond.methodLink RX0 38 yX0_rowOf, Cond.static yX0_rowOf, Cond.code yX0_rowOf cX0_rowOf 1 (some .int), Cond.methodLink RX0 41 yX0_isFree, Cond.instanceMethod yX0_isFree, Cond.selects RX0 yX0_isFree yX0_isFree, Cond.code yX0_isFree cX0_isFree 3 (some .boolean), Cond.fieldLink RX0 9 "PaintedDie$Board" "isWalled" "[Z", Cond.methodLink RX0 26 yX0_has, Cond.methodLink RX0 30 yX0_cellAt, Cond.static yX0_cellAt, Cond.code yX0_cellAt cX0_cellAt 2 (some .int), Cond.static yX2_behindRoll]
def wsL_fewestRollsWithTop_r4 : List Cond := [Cond.initialized RX2, Cond.code yX2_behindRoll cX2_behindRoll 4 (some .int), Cond.methodLink RX2 9 yX2_topOf, Cond.static yX2_topOf, Cond.code yX2_topOf cX2_topOf 1 (some .int), Cond.methodLink RX2 15 yX2_northOf, Cond.static yX2_northOf, Cond.code yX2_northOf cX2_northOf 1 (some .int), Cond.methodLink RX2 24 yX2_with, Cond.static yX2_with, Cond.code yX2_with cX2_with 2 (some .int), Cond.methodLink RX2 21 yX2_eastOf, Cond.static yX2_eastOf, Cond.code yX2_eastOf cX2_eastOf 5 (some .int), Cond.methodLink RX2 18 yX2_axisOf, Cond.static yX2_axisOf, Cond.code yX2_axisOf cX2_axisOf 1 (some .int), Cond.methodLink RX1 42 yX1_reach, Cond.instanceMethod yX1_fewestWithTop, Cond.selects RX1 yX1_fewestWithTop yX1_fewestWithTop, Cond.code yX1_fewestWithTop cX1_fewestWithTop 5 (some .int), Cond.methodLink RX1 49 yX1_fewerOf, Cond.static yX1_fewerOf, Cond.code yX1_fewerOf cX1_fewerOf 2 (some .int)]
def wsL_fewestRollsWithTop_r5 : List Cond := [Cond.methodLink RX1 55 Lib.Math.min.name, Cond.static Lib.Math.min.name, Cond.initialized "java/lang/Math", Cond.code Lib.Math.min.name Lib.Math.min.code 2 (some .int)]
def wsL_fewestRollsWithTop : List Cond := .codeWith yL_fewestRollsWithTop cL_fewestRollsWithTop 6 (some .int) [(0, 12, 15, 19)] :: ((wsL_fewestRollsWithTop_r1 ++ (wsL_fewestRollsWithTop_r2 ++ (wsL_fewestRollsWithTop_r3 ++ (wsL_fewestRollsWithTop_r4 ++ wsL_fewestRollsWithTop_r5)))) ++ wsX30 ++ wsX00 ++ wsX10 ++ (vx_atS RX3 152 "java/lang/IndexOutOfBoundsException" ["java/lang/RuntimeException", "java/lang/Exception"]).filter goodWord)
def wsL_firstRoll_r1 : List Cond := [Cond.classLink RL 19 "java/lang/IndexOutOfBoundsException", Cond.methodLink RL 68 yX3_firstRoll, Cond.instanceMethod yX3_firstRoll, Cond.selects RX3 yX3_firstRoll yX3_firstRoll, Cond.initialized RX3, Cond.code yX3_firstRoll cX3_firstRoll 7 (some .int), Cond.fieldLink RX3 19 "PaintedDie" "search" "LPaintedDie$Search;", Cond.fieldLink RX3 52 "PaintedDie" "cell" "I", Cond.fieldLink RX3 96 "PaintedDie" "turn" "I", Cond.fieldLink RX3 12 "PaintedDie" "board" "LPaintedDie$Board;", Cond.methodLink RX3 45 yX3_checkCell, Cond.instanceMethod yX3_checkCell, Cond.selects RX3 yX3_checkCell yX3_checkCell, Cond.code yX3_checkCell cX3_checkCell 3 none, Cond.classLink RX3 148 "java/lang/IndexOutOfBoundsException", Cond.initialized "java/lang/IndexOutOfBoundsException", Cond.instanceMethod yX0_has, Cond.initialized RX0, Cond.selects RX0 yX0_has yX0_has, Cond.code yX0_has cX0_has 3 (some .boolean), Cond.fieldLink RX0 19 "PaintedDie$Board" "width" "I", Cond.fieldLink RX0 23 "PaintedDie$Board" "height" "I", Cond.methodLink RX3 64 yX3_checkFace, Cond.static yX3_checkFace]
def wsL_firstRoll_r2 : List Cond := [Cond.code yX3_checkFace cX3_checkFace 1 none, Cond.methodLink RX3 219 yX3_isFace, Cond.static yX3_isFace, Cond.code yX3_isFace cX3_isFace 1 (some .boolean), Cond.static yX0_cellAt, Cond.code yX0_cellAt cX0_cellAt 2 (some .int), Cond.methodLink RX3 165 yX3_searchBackFrom, Cond.instanceMethod yX3_searchBackFrom, Cond.selects RX3 yX3_searchBackFrom yX3_searchBackFrom, Cond.code yX3_searchBackFrom cX3_searchBackFrom 4 none, Cond.instanceMethod yX1_forget, Cond.initialized RX1, Cond.selects RX1 yX1_forget yX1_forget, Cond.code yX1_forget cX1_forget 1 none, Cond.fieldLink RX1 11 "PaintedDie$Search" "fewest" "[I", Cond.fieldLink RX1 26 "PaintedDie$Search" "found" "I", Cond.methodLink RX1 20 yJ7_fill_53178, Cond.static yJ7_fill_53178, Cond.initialized RJ7, Cond.code yJ7_fill_53178 cJ7_fill_53178 4 none, Cond.instanceMethod yX0_isFreeCell, Cond.selects RX0 yX0_isFreeCell yX0_isFreeCell, Cond.code yX0_isFreeCell cX0_isFreeCell 2 (some .boolean), Cond.methodLink RX0 34 yX0_columnOf]
def wsL_firstRoll_r3 : List Cond := [Cond.static yX0_columnOf, Cond.code yX0_columnOf cX0_columnOf 1 (some .int), Cond.methodLink RX0 38 yX0_rowOf, Cond.static yX0_rowOf, Cond.code yX0_rowOf cX0_rowOf 1 (some .int), Cond.methodLink RX0 41 yX0_isFree, Cond.instanceMethod yX0_isFree, Cond.selects RX0 yX0_isFree yX0_isFree, Cond.code yX0_isFree cX0_isFree 3 (some .boolean), Cond.fieldLink RX0 9 "PaintedDie$Board" "isWalled" "[Z", Cond.methodLink RX0 26 yX0_has, Cond.methodLink RX0 30 yX0_cellAt, Cond.static yX2_with, Cond.initialized RX2, Cond.code yX2_with cX2_with 2 (some .int), Cond.instanceMethod yX1_reach, Cond.selects RX1 yX1_reach yX1_reach, Cond.code yX1_reach cX1_reach 5 none, Cond.fieldLink RX1 17 "PaintedDie$Search" "queue" "[I", Cond.instanceMethod yX1_spread, Cond.selects RX1 yX1_spread yX1_spread, Cond.code yX1_spread cX1_spread 8 none, Cond.methodLink RX1 30 yX1_rollsAt, Cond.instanceMethod yX1_rollsAt]
def wsL_firstRoll_r4 : List Cond := [Cond.selects RX1 yX1_rollsAt yX1_rollsAt, Cond.code yX1_rollsAt cX1_rollsAt 4 (some .int), Cond.instanceMethod yX0_nextCell, Cond.selects RX0 yX0_nextCell yX0_nextCell, Cond.code yX0_nextCell cX0_nextCell 5 (some .int), Cond.static yX2_behindRoll, Cond.code yX2_behindRoll cX2_behindRoll 4 (some .int), Cond.methodLink RX2 9 yX2_topOf, Cond.static yX2_topOf, Cond.code yX2_topOf cX2_topOf 1 (some .int), Cond.methodLink RX2 15 yX2_northOf, Cond.static yX2_northOf, Cond.code yX2_northOf cX2_northOf 1 (some .int), Cond.methodLink RX2 24 yX2_with, Cond.methodLink RX2 21 yX2_eastOf, Cond.static yX2_eastOf, Cond.code yX2_eastOf cX2_eastOf 5 (some .int), Cond.methodLink RX2 18 yX2_axisOf, Cond.static yX2_axisOf, Cond.code yX2_axisOf cX2_axisOf 1 (some .int), Cond.methodLink RX1 42 yX1_reach]
def wsL_firstRoll : List Cond := .codeWith yL_firstRoll cL_firstRoll 6 (some .int) [(0, 12, 15, 19)] :: ((wsL_firstRoll_r1 ++ (wsL_firstRoll_r2 ++ (wsL_firstRoll_r3 ++ wsL_firstRoll_r4))) ++ wsX30 ++ wsX00 ++ wsX10 ++ (vx_atS RX3 152 "java/lang/IndexOutOfBoundsException" ["java/lang/RuntimeException", "java/lang/Exception"]).filter goodWord)
def wsL_topsAt_r1 : List Cond := [Cond.classLink RL 19 "java/lang/IndexOutOfBoundsException", Cond.methodLink RL 71 yX3_topsAt, Cond.instanceMethod yX3_topsAt, Cond.selects RX3 yX3_topsAt yX3_topsAt, Cond.initialized RX3, Cond.code yX3_topsAt cX3_topsAt 3 (some .int), Cond.fieldLink RX3 19 "PaintedDie" "search" "LPaintedDie$Search;", Cond.methodLink RX3 45 yX3_checkCell, Cond.instanceMethod yX3_checkCell, Cond.selects RX3 yX3_checkCell yX3_checkCell, Cond.code yX3_checkCell cX3_checkCell 3 none, Cond.classLink RX3 148 "java/lang/IndexOutOfBoundsException", Cond.initialized "java/lang/IndexOutOfBoundsException", Cond.fieldLink RX3 12 "PaintedDie" "board" "LPaintedDie$Board;", Cond.instanceMethod yX0_has, Cond.initialized RX0, Cond.selects RX0 yX0_has yX0_has, Cond.code yX0_has cX0_has 3 (some .boolean), Cond.fieldLink RX0 19 "PaintedDie$Board" "width" "I", Cond.fieldLink RX0 23 "PaintedDie$Board" "height" "I", Cond.methodLink RX3 156 yX3_searchFromHere, Cond.instanceMethod yX3_searchFromHere, Cond.selects RX3 yX3_searchFromHere yX3_searchFromHere, Cond.code yX3_searchFromHere cX3_searchFromHere 1 none]
def wsL_topsAt_r2 : List Cond := [Cond.fieldLink RX3 52 "PaintedDie" "cell" "I", Cond.fieldLink RX3 96 "PaintedDie" "turn" "I", Cond.instanceMethod yX1_forget, Cond.initialized RX1, Cond.selects RX1 yX1_forget yX1_forget, Cond.code yX1_forget cX1_forget 1 none, Cond.fieldLink RX1 11 "PaintedDie$Search" "fewest" "[I", Cond.fieldLink RX1 26 "PaintedDie$Search" "found" "I", Cond.methodLink RX1 20 yJ7_fill_53178, Cond.static yJ7_fill_53178, Cond.initialized RJ7, Cond.code yJ7_fill_53178 cJ7_fill_53178 4 none, Cond.instanceMethod yX1_reach, Cond.selects RX1 yX1_reach yX1_reach, Cond.code yX1_reach cX1_reach 5 none, Cond.fieldLink RX1 17 "PaintedDie$Search" "queue" "[I", Cond.instanceMethod yX1_spread, Cond.selects RX1 yX1_spread yX1_spread, Cond.code yX1_spread cX1_spread 8 none, Cond.methodLink RX1 30 yX1_rollsAt, Cond.instanceMethod yX1_rollsAt, Cond.selects RX1 yX1_rollsAt yX1_rollsAt, Cond.code yX1_rollsAt cX1_rollsAt 4 (some .int), Cond.instanceMethod yX0_nextCell]
def wsL_topsAt_r3 : List Cond := [Cond.selects RX0 yX0_nextCell yX0_nextCell, Cond.code yX0_nextCell cX0_nextCell 5 (some .int), Cond.methodLink RX0 34 yX0_columnOf, Cond.static yX0_columnOf, Cond.code yX0_columnOf cX0_columnOf 1 (some .int), Cond.methodLink RX0 38 yX0_rowOf, Cond.static yX0_rowOf, Cond.code yX0_rowOf cX0_rowOf 1 (some .int), Cond.methodLink RX0 41 yX0_isFree, Cond.instanceMethod yX0_isFree, Cond.selects RX0 yX0_isFree yX0_isFree, Cond.code yX0_isFree cX0_isFree 3 (some .boolean), Cond.fieldLink RX0 9 "PaintedDie$Board" "isWalled" "[Z", Cond.methodLink RX0 26 yX0_has, Cond.methodLink RX0 30 yX0_cellAt, Cond.static yX0_cellAt, Cond.code yX0_cellAt cX0_cellAt 2 (some .int), Cond.static yX2_behindRoll, Cond.initialized RX2, Cond.code yX2_behindRoll cX2_behindRoll 4 (some .int), Cond.methodLink RX2 9 yX2_topOf, Cond.static yX2_topOf, Cond.code yX2_topOf cX2_topOf 1 (some .int), Cond.methodLink RX2 15 yX2_northOf]
def wsL_topsAt_r4 : List Cond := [Cond.static yX2_northOf, Cond.code yX2_northOf cX2_northOf 1 (some .int), Cond.methodLink RX2 24 yX2_with, Cond.static yX2_with, Cond.code yX2_with cX2_with 2 (some .int), Cond.methodLink RX2 21 yX2_eastOf, Cond.static yX2_eastOf, Cond.code yX2_eastOf cX2_eastOf 5 (some .int), Cond.methodLink RX2 18 yX2_axisOf, Cond.static yX2_axisOf, Cond.code yX2_axisOf cX2_axisOf 1 (some .int), Cond.methodLink RX1 42 yX1_reach, Cond.instanceMethod yX1_countTops, Cond.selects RX1 yX1_countTops yX1_countTops, Cond.code yX1_countTops cX1_countTops 4 (some .int), Cond.methodLink RX1 52 yX1_fewestWithTop, Cond.instanceMethod yX1_fewestWithTop, Cond.selects RX1 yX1_fewestWithTop yX1_fewestWithTop, Cond.code yX1_fewestWithTop cX1_fewestWithTop 5 (some .int), Cond.methodLink RX1 49 yX1_fewerOf, Cond.static yX1_fewerOf, Cond.code yX1_fewerOf cX1_fewerOf 2 (some .int), Cond.methodLink RX1 55 Lib.Math.min.name, Cond.static Lib.Math.min.name]
def wsL_topsAt_r5 : List Cond := [Cond.initialized "java/lang/Math", Cond.code Lib.Math.min.name Lib.Math.min.code 2 (some .int)]
def wsL_topsAt : List Cond := .codeWith yL_topsAt cL_topsAt 5 (some .int) [(0, 10, 13, 19)] :: ((wsL_topsAt_r1 ++ (wsL_topsAt_r2 ++ (wsL_topsAt_r3 ++ (wsL_topsAt_r4 ++ wsL_topsAt_r5)))) ++ wsX30 ++ wsX00 ++ wsX10 ++ (vx_atS RX3 152 "java/lang/IndexOutOfBoundsException" ["java/lang/RuntimeException", "java/lang/Exception"]).filter goodWord)
def wsL_cellsBehind_r1 : List Cond := [Cond.classLink RL 13 "java/lang/IllegalArgumentException", Cond.methodLink RL 74 yX3_cellsBehind, Cond.instanceMethod yX3_cellsBehind, Cond.selects RX3 yX3_cellsBehind yX3_cellsBehind, Cond.initialized RX3, Cond.code yX3_cellsBehind cX3_cellsBehind 5 (some .int), Cond.classLink RX3 38 "java/lang/IllegalArgumentException", Cond.initialized "java/lang/IllegalArgumentException", Cond.fieldLink RX3 19 "PaintedDie" "search" "LPaintedDie$Search;", Cond.methodLink RX3 182 yX3_isShutIn, Cond.instanceMethod yX3_isShutIn, Cond.selects RX3 yX3_isShutIn yX3_isShutIn, Cond.code yX3_isShutIn cX3_isShutIn 2 (some .boolean), Cond.fieldLink RX3 12 "PaintedDie" "board" "LPaintedDie$Board;", Cond.fieldLink RX3 52 "PaintedDie" "cell" "I", Cond.instanceMethod yX0_nextCell, Cond.initialized RX0, Cond.selects RX0 yX0_nextCell yX0_nextCell, Cond.code yX0_nextCell cX0_nextCell 5 (some .int), Cond.methodLink RX0 34 yX0_columnOf, Cond.static yX0_columnOf, Cond.code yX0_columnOf cX0_columnOf 1 (some .int), Cond.methodLink RX0 38 yX0_rowOf, Cond.static yX0_rowOf]
def wsL_cellsBehind_r2 : List Cond := [Cond.code yX0_rowOf cX0_rowOf 1 (some .int), Cond.methodLink RX0 41 yX0_isFree, Cond.instanceMethod yX0_isFree, Cond.selects RX0 yX0_isFree yX0_isFree, Cond.code yX0_isFree cX0_isFree 3 (some .boolean), Cond.fieldLink RX0 9 "PaintedDie$Board" "isWalled" "[Z", Cond.methodLink RX0 26 yX0_has, Cond.instanceMethod yX0_has, Cond.selects RX0 yX0_has yX0_has, Cond.code yX0_has cX0_has 3 (some .boolean), Cond.fieldLink RX0 19 "PaintedDie$Board" "width" "I", Cond.fieldLink RX0 23 "PaintedDie$Board" "height" "I", Cond.methodLink RX0 30 yX0_cellAt, Cond.static yX0_cellAt, Cond.code yX0_cellAt cX0_cellAt 2 (some .int), Cond.methodLink RX3 156 yX3_searchFromHere, Cond.instanceMethod yX3_searchFromHere, Cond.selects RX3 yX3_searchFromHere yX3_searchFromHere, Cond.code yX3_searchFromHere cX3_searchFromHere 1 none, Cond.fieldLink RX3 96 "PaintedDie" "turn" "I", Cond.instanceMethod yX1_forget, Cond.initialized RX1, Cond.selects RX1 yX1_forget yX1_forget, Cond.code yX1_forget cX1_forget 1 none]
def wsL_cellsBehind_r3 : List Cond := [Cond.fieldLink RX1 11 "PaintedDie$Search" "fewest" "[I", Cond.fieldLink RX1 26 "PaintedDie$Search" "found" "I", Cond.methodLink RX1 20 yJ7_fill_53178, Cond.static yJ7_fill_53178, Cond.initialized RJ7, Cond.code yJ7_fill_53178 cJ7_fill_53178 4 none, Cond.instanceMethod yX1_reach, Cond.selects RX1 yX1_reach yX1_reach, Cond.code yX1_reach cX1_reach 5 none, Cond.fieldLink RX1 17 "PaintedDie$Search" "queue" "[I", Cond.instanceMethod yX1_spread, Cond.selects RX1 yX1_spread yX1_spread, Cond.code yX1_spread cX1_spread 8 none, Cond.methodLink RX1 30 yX1_rollsAt, Cond.instanceMethod yX1_rollsAt, Cond.selects RX1 yX1_rollsAt yX1_rollsAt, Cond.code yX1_rollsAt cX1_rollsAt 4 (some .int), Cond.static yX2_behindRoll, Cond.initialized RX2, Cond.code yX2_behindRoll cX2_behindRoll 4 (some .int), Cond.methodLink RX2 9 yX2_topOf, Cond.static yX2_topOf, Cond.code yX2_topOf cX2_topOf 1 (some .int), Cond.methodLink RX2 15 yX2_northOf]
def wsL_cellsBehind_r4 : List Cond := [Cond.static yX2_northOf, Cond.code yX2_northOf cX2_northOf 1 (some .int), Cond.methodLink RX2 24 yX2_with, Cond.static yX2_with, Cond.code yX2_with cX2_with 2 (some .int), Cond.methodLink RX2 21 yX2_eastOf, Cond.static yX2_eastOf, Cond.code yX2_eastOf cX2_eastOf 5 (some .int), Cond.methodLink RX2 18 yX2_axisOf, Cond.static yX2_axisOf, Cond.code yX2_axisOf cX2_axisOf 1 (some .int), Cond.methodLink RX1 42 yX1_reach, Cond.instanceMethod yX1_fewestTo, Cond.selects RX1 yX1_fewestTo yX1_fewestTo, Cond.code yX1_fewestTo cX1_fewestTo 4 (some .int), Cond.methodLink RX1 52 yX1_fewestWithTop, Cond.instanceMethod yX1_fewestWithTop, Cond.selects RX1 yX1_fewestWithTop yX1_fewestWithTop, Cond.code yX1_fewestWithTop cX1_fewestWithTop 5 (some .int), Cond.methodLink RX1 49 yX1_fewerOf, Cond.static yX1_fewerOf, Cond.code yX1_fewerOf cX1_fewerOf 2 (some .int), Cond.methodLink RX1 55 Lib.Math.min.name, Cond.static Lib.Math.min.name]
def wsL_cellsBehind_r5 : List Cond := [Cond.initialized "java/lang/Math", Cond.code Lib.Math.min.name Lib.Math.min.code 2 (some .int)]
def wsL_cellsBehind : List Cond := .codeWith yL_cellsBehind cL_cellsBehind 4 (some .int) [(0, 9, 12, 13)] :: ((wsL_cellsBehind_r1 ++ (wsL_cellsBehind_r2 ++ (wsL_cellsBehind_r3 ++ (wsL_cellsBehind_r4 ++ wsL_cellsBehind_r5)))) ++ wsX30 ++ wsX00 ++ wsX10 ++ (vx_atS RX3 42 "java/lang/IllegalArgumentException" ["java/lang/RuntimeException", "java/lang/Exception"]).filter goodWord)
def wsL_bestPut_r1 : List Cond := [Cond.classLink RL 19 "java/lang/IndexOutOfBoundsException", Cond.methodLink RL 77 yX3_bestPut, Cond.instanceMethod yX3_bestPut, Cond.selects RX3 yX3_bestPut yX3_bestPut, Cond.initialized RX3, Cond.code yX3_bestPut cX3_bestPut 7 (some .int), Cond.fieldLink RX3 52 "PaintedDie" "cell" "I", Cond.fieldLink RX3 12 "PaintedDie" "board" "LPaintedDie$Board;", Cond.fieldLink RX3 19 "PaintedDie" "search" "LPaintedDie$Search;", Cond.methodLink RX3 64 yX3_checkFace, Cond.static yX3_checkFace, Cond.code yX3_checkFace cX3_checkFace 1 none, Cond.classLink RX3 148 "java/lang/IndexOutOfBoundsException", Cond.initialized "java/lang/IndexOutOfBoundsException", Cond.methodLink RX3 219 yX3_isFace, Cond.static yX3_isFace, Cond.code yX3_isFace cX3_isFace 1 (some .boolean), Cond.methodLink RX3 165 yX3_searchBackFrom, Cond.instanceMethod yX3_searchBackFrom, Cond.selects RX3 yX3_searchBackFrom yX3_searchBackFrom, Cond.code yX3_searchBackFrom cX3_searchBackFrom 4 none, Cond.instanceMethod yX1_forget, Cond.initialized RX1, Cond.selects RX1 yX1_forget yX1_forget]
def wsL_bestPut_r2 : List Cond := [Cond.code yX1_forget cX1_forget 1 none, Cond.fieldLink RX1 11 "PaintedDie$Search" "fewest" "[I", Cond.fieldLink RX1 26 "PaintedDie$Search" "found" "I", Cond.methodLink RX1 20 yJ7_fill_53178, Cond.static yJ7_fill_53178, Cond.initialized RJ7, Cond.code yJ7_fill_53178 cJ7_fill_53178 4 none, Cond.instanceMethod yX0_isFreeCell, Cond.initialized RX0, Cond.selects RX0 yX0_isFreeCell yX0_isFreeCell, Cond.code yX0_isFreeCell cX0_isFreeCell 2 (some .boolean), Cond.methodLink RX0 34 yX0_columnOf, Cond.static yX0_columnOf, Cond.code yX0_columnOf cX0_columnOf 1 (some .int), Cond.methodLink RX0 38 yX0_rowOf, Cond.static yX0_rowOf, Cond.code yX0_rowOf cX0_rowOf 1 (some .int), Cond.methodLink RX0 41 yX0_isFree, Cond.instanceMethod yX0_isFree, Cond.selects RX0 yX0_isFree yX0_isFree, Cond.code yX0_isFree cX0_isFree 3 (some .boolean), Cond.fieldLink RX0 9 "PaintedDie$Board" "isWalled" "[Z", Cond.methodLink RX0 26 yX0_has, Cond.instanceMethod yX0_has]
def wsL_bestPut_r3 : List Cond := [Cond.selects RX0 yX0_has yX0_has, Cond.code yX0_has cX0_has 3 (some .boolean), Cond.fieldLink RX0 19 "PaintedDie$Board" "width" "I", Cond.fieldLink RX0 23 "PaintedDie$Board" "height" "I", Cond.methodLink RX0 30 yX0_cellAt, Cond.static yX0_cellAt, Cond.code yX0_cellAt cX0_cellAt 2 (some .int), Cond.static yX2_with, Cond.initialized RX2, Cond.code yX2_with cX2_with 2 (some .int), Cond.instanceMethod yX1_reach, Cond.selects RX1 yX1_reach yX1_reach, Cond.code yX1_reach cX1_reach 5 none, Cond.fieldLink RX1 17 "PaintedDie$Search" "queue" "[I", Cond.instanceMethod yX1_spread, Cond.selects RX1 yX1_spread yX1_spread, Cond.code yX1_spread cX1_spread 8 none, Cond.methodLink RX1 30 yX1_rollsAt, Cond.instanceMethod yX1_rollsAt, Cond.selects RX1 yX1_rollsAt yX1_rollsAt, Cond.code yX1_rollsAt cX1_rollsAt 4 (some .int), Cond.instanceMethod yX0_nextCell, Cond.selects RX0 yX0_nextCell yX0_nextCell, Cond.code yX0_nextCell cX0_nextCell 5 (some .int)]
def wsL_bestPut_r4 : List Cond := [Cond.static yX2_behindRoll, Cond.code yX2_behindRoll cX2_behindRoll 4 (some .int), Cond.methodLink RX2 9 yX2_topOf, Cond.static yX2_topOf, Cond.code yX2_topOf cX2_topOf 1 (some .int), Cond.methodLink RX2 15 yX2_northOf, Cond.static yX2_northOf, Cond.code yX2_northOf cX2_northOf 1 (some .int), Cond.methodLink RX2 24 yX2_with, Cond.methodLink RX2 21 yX2_eastOf, Cond.static yX2_eastOf, Cond.code yX2_eastOf cX2_eastOf 5 (some .int), Cond.methodLink RX2 18 yX2_axisOf, Cond.static yX2_axisOf, Cond.code yX2_axisOf cX2_axisOf 1 (some .int), Cond.methodLink RX1 42 yX1_reach]
def wsL_bestPut : List Cond := .codeWith yL_bestPut cL_bestPut 4 (some .int) [(0, 9, 12, 19)] :: ((wsL_bestPut_r1 ++ (wsL_bestPut_r2 ++ (wsL_bestPut_r3 ++ wsL_bestPut_r4))) ++ wsX30 ++ wsX00 ++ wsX10 ++ (vx_atS RX3 152 "java/lang/IndexOutOfBoundsException" ["java/lang/RuntimeException", "java/lang/Exception"]).filter goodWord)
def wsL_law0_r1 : List Cond := [Cond.classLink RL 8 RX3, Cond.instantiable RX3 8, Cond.initialized RX3, Cond.classLink RL 81 RX4, Cond.instantiable RX4 25, Cond.initialized RX4, Cond.arrayClass .long, Cond.methodLink RL 80 yX3_init, Cond.instanceMethod yX3_init, Cond.code yX3_init cX3_init 2 none, Cond.methodLink RX3 3 objectInit, Cond.instanceMethod objectInit, Cond.code objectInit ⟨#[0xb1]⟩ 1 none, Cond.classLink RX3 9 RX0, Cond.instantiable RX0 4, Cond.initialized RX0, Cond.fieldLink RX3 12 "PaintedDie" "board" "LPaintedDie$Board;", Cond.classLink RX3 16 RX1, Cond.instantiable RX1 3, Cond.initialized RX1, Cond.fieldLink RX3 19 "PaintedDie" "search" "LPaintedDie$Search;", Cond.arrayClass .int, Cond.fieldLink RX3 23 "PaintedDie" "colours" "[I", Cond.fieldLink RX3 27 "PaintedDie" "paints" "[I"]
def wsL_law0_r2 : List Cond := [Cond.instanceMethod yX0_init, Cond.code yX0_init cX0_init 1 none, Cond.methodLink RX0 3 objectInit, Cond.arrayClass .boolean, Cond.fieldLink RX0 9 "PaintedDie$Board" "isWalled" "[Z", Cond.fieldLink RX0 15 "PaintedDie$Board" "printed" "[I", Cond.instanceMethod yX1_init, Cond.code yX1_init cX1_init 1 none, Cond.methodLink RX1 3 objectInit, Cond.fieldLink RX1 11 "PaintedDie$Search" "fewest" "[I", Cond.fieldLink RX1 17 "PaintedDie$Search" "queue" "[I", Cond.methodLink RX3 30 yX3_startOn, Cond.instanceMethod yX3_startOn, Cond.selects RX3 yX3_startOn yX3_startOn, Cond.code yX3_startOn cX3_startOn 3 none, Cond.fieldLink RX3 52 "PaintedDie" "cell" "I", Cond.fieldLink RX3 96 "PaintedDie" "turn" "I", Cond.fieldLink RX3 142 "PaintedDie" "rollsMade" "I", Cond.fieldLink RX3 145 "PaintedDie" "printsMade" "I", Cond.instanceMethod yX0_layOut, Cond.selects RX0 yX0_layOut yX0_layOut, Cond.code yX0_layOut cX0_layOut 4 none, Cond.fieldLink RX0 19 "PaintedDie$Board" "width" "I", Cond.fieldLink RX0 23 "PaintedDie$Board" "height" "I"]
def wsL_law0_r3 : List Cond := [Cond.methodLink RL 83 yX4_init, Cond.instanceMethod yX4_init, Cond.code yX4_init cX4_init 2 none, Cond.methodLink RX4 1 objectInit, Cond.fieldLink RX4 9 "PaintedDieModel" "isWall" "[Z", Cond.fieldLink RX4 13 "PaintedDieModel" "print" "[I", Cond.fieldLink RX4 17 "PaintedDieModel" "colour" "[I", Cond.fieldLink RX4 20 "PaintedDieModel" "paint" "[I", Cond.fieldLink RX4 23 "PaintedDieModel" "far" "[I", Cond.fieldLink RX4 26 "PaintedDieModel" "cells" "[I", Cond.fieldLink RX4 29 "PaintedDieModel" "tops" "[I", Cond.fieldLink RX4 32 "PaintedDieModel" "norths" "[I", Cond.fieldLink RX4 35 "PaintedDieModel" "easts" "[I", Cond.fieldLink RX4 38 "PaintedDieModel" "isOn" "[Z", Cond.fieldLink RX4 41 "PaintedDieModel" "isNext" "[Z", Cond.methodLink RX4 44 yX4_take, Cond.instanceMethod yX4_take, Cond.selects RX4 yX4_take yX4_take, Cond.code yX4_take cX4_take 4 none, Cond.fieldLink RX4 52 "PaintedDieModel" "w" "I", Cond.fieldLink RX4 59 "PaintedDieModel" "h" "I", Cond.fieldLink RX4 71 "PaintedDieModel" "rolls" "I", Cond.fieldLink RX4 74 "PaintedDieModel" "prints" "I", Cond.fieldLink RX4 77 "PaintedDieModel" "cell" "I"]
def wsL_law0_r4 : List Cond := [Cond.methodLink RX4 80 yX4_turnAsAtFirst, Cond.instanceMethod yX4_turnAsAtFirst, Cond.selects RX4 yX4_turnAsAtFirst yX4_turnAsAtFirst, Cond.code yX4_turnAsAtFirst cX4_turnAsAtFirst 1 none, Cond.fieldLink RX4 62 "PaintedDieModel" "top" "I", Cond.fieldLink RX4 65 "PaintedDieModel" "north" "I", Cond.fieldLink RX4 68 "PaintedDieModel" "east" "I", Cond.methodLink RL 84 yL_newBoard, Cond.static yL_newBoard, Cond.initialized RL, Cond.codeWith yL_newBoard cL_newBoard 5 (some .int) [(0, 10, 13, 13)], Cond.classLink RL 13 "java/lang/IllegalArgumentException", Cond.methodLink RL 7 yX3_newBoard, Cond.instanceMethod yX3_newBoard, Cond.selects RX3 yX3_newBoard yX3_newBoard, Cond.code yX3_newBoard cX3_newBoard 3 (some .int), Cond.classLink RX3 38 "java/lang/IllegalArgumentException", Cond.initialized "java/lang/IllegalArgumentException", Cond.methodLink RX3 34 yX3_isSide, Cond.static yX3_isSide, Cond.code yX3_isSide cX3_isSide 1 (some .boolean), Cond.methodLink RL 89 yX4_newBoard, Cond.instanceMethod yX4_newBoard, Cond.selects RX4 yX4_newBoard yX4_newBoard]
def wsL_law0_r5 : List Cond := [Cond.code yX4_newBoard cX4_newBoard 3 (some .int), Cond.fieldLink RX4 48 "PaintedDieModel" "thrown" "I", Cond.methodLink RX4 55 yX4_isIn, Cond.static yX4_isIn, Cond.code yX4_isIn cX4_isIn 3 (some .boolean), Cond.methodLink RX4 109 yX4_no, Cond.instanceMethod yX4_no, Cond.selects RX4 yX4_no yX4_no, Cond.code yX4_no cX4_no 2 (some .int), Cond.methodLink RL 90 yX4_thrown, Cond.instanceMethod yX4_thrown, Cond.selects RX4 yX4_thrown yX4_thrown, Cond.code yX4_thrown cX4_thrown 1 (some .int), Cond.methodLink RL 94 yL_turnWall, Cond.static yL_turnWall, Cond.codeWith yL_turnWall cL_turnWall 5 (some .int) [(0, 17, 20, 19), (0, 17, 24, 21)], Cond.classLink RL 19 "java/lang/IndexOutOfBoundsException", Cond.classLink RL 21 "java/lang/IllegalStateException", Cond.methodLink RL 15 yX3_turnWall, Cond.instanceMethod yX3_turnWall, Cond.selects RX3 yX3_turnWall yX3_turnWall, Cond.code yX3_turnWall cX3_turnWall 4 (some .boolean), Cond.classLink RX3 56 "java/lang/IllegalStateException", Cond.initialized "java/lang/IllegalStateException"]
def wsL_law0_r6 : List Cond := [Cond.methodLink RX3 45 yX3_checkCell, Cond.instanceMethod yX3_checkCell, Cond.selects RX3 yX3_checkCell yX3_checkCell, Cond.code yX3_checkCell cX3_checkCell 3 none, Cond.classLink RX3 148 "java/lang/IndexOutOfBoundsException", Cond.initialized "java/lang/IndexOutOfBoundsException", Cond.instanceMethod yX0_has, Cond.selects RX0 yX0_has yX0_has, Cond.code yX0_has cX0_has 3 (some .boolean), Cond.static yX0_cellAt, Cond.code yX0_cellAt cX0_cellAt 2 (some .int), Cond.instanceMethod yX0_turnOver, Cond.selects RX0 yX0_turnOver yX0_turnOver, Cond.code yX0_turnOver cX0_turnOver 2 (some .boolean), Cond.methodLink RL 96 yX4_turnWall, Cond.instanceMethod yX4_turnWall, Cond.selects RX4 yX4_turnWall yX4_turnWall, Cond.code yX4_turnWall cX4_turnWall 4 (some .boolean), Cond.methodLink RX4 83 yX4_isCell, Cond.instanceMethod yX4_isCell, Cond.selects RX4 yX4_isCell yX4_isCell, Cond.code yX4_isCell cX4_isCell 3 (some .boolean), Cond.methodLink RX4 113 yX4_isNot, Cond.instanceMethod yX4_isNot]
def wsL_law0_r7 : List Cond := [Cond.selects RX4 yX4_isNot yX4_isNot, Cond.code yX4_isNot cX4_isNot 2 (some .boolean), Cond.methodLink RL 97 yL_setColour, Cond.static yL_setColour, Cond.codeWith yL_setColour cL_setColour 5 (some .int) [(0, 10, 13, 19), (0, 10, 17, 13)], Cond.methodLink RL 23 yX3_setColour, Cond.instanceMethod yX3_setColour, Cond.selects RX3 yX3_setColour yX3_setColour, Cond.code yX3_setColour cX3_setColour 4 (some .int), Cond.methodLink RX3 64 yX3_checkFace, Cond.static yX3_checkFace, Cond.code yX3_checkFace cX3_checkFace 1 none, Cond.methodLink RX3 219 yX3_isFace, Cond.static yX3_isFace, Cond.code yX3_isFace cX3_isFace 1 (some .boolean), Cond.methodLink RL 99 yX4_setColour, Cond.instanceMethod yX4_setColour, Cond.selects RX4 yX4_setColour yX4_setColour, Cond.code yX4_setColour cX4_setColour 4 (some .int), Cond.methodLink RX4 117 yX4_isFace, Cond.static yX4_isFace, Cond.code yX4_isFace cX4_isFace 1 (some .boolean), Cond.methodLink RL 100 yL_addPaint, Cond.static yL_addPaint]
def wsL_law0_r8 : List Cond := [Cond.codeWith yL_addPaint cL_addPaint 5 (some .int) [(0, 10, 13, 19), (0, 10, 17, 13)], Cond.methodLink RL 26 yX3_addPaint, Cond.instanceMethod yX3_addPaint, Cond.selects RX3 yX3_addPaint yX3_addPaint, Cond.code yX3_addPaint cX3_addPaint 3 (some .int), Cond.methodLink RX3 72 Lib.Math.min.name, Cond.static Lib.Math.min.name, Cond.initialized "java/lang/Math", Cond.code Lib.Math.min.name Lib.Math.min.code 2 (some .int), Cond.methodLink RL 102 yX4_addPaint, Cond.instanceMethod yX4_addPaint, Cond.selects RX4 yX4_addPaint yX4_addPaint, Cond.code yX4_addPaint cX4_addPaint 3 (some .int), Cond.methodLink RX4 120 Lib.Math.min.name, Cond.methodLink RL 103 yL_put, Cond.static yL_put, Cond.codeWith yL_put cL_put 5 (some .int) [(0, 10, 13, 19), (0, 10, 17, 21)], Cond.methodLink RL 29 yX3_put, Cond.instanceMethod yX3_put, Cond.selects RX3 yX3_put yX3_put, Cond.code yX3_put cX3_put 4 (some .int), Cond.methodLink RX3 87 Lib.Math.abs.name, Cond.static Lib.Math.abs.name, Cond.code Lib.Math.abs.name Lib.Math.abs.code 1 (some .int)]
def wsL_law0_r9 : List Cond := [Cond.instanceMethod yX0_isFree, Cond.selects RX0 yX0_isFree yX0_isFree, Cond.code yX0_isFree cX0_isFree 3 (some .boolean), Cond.methodLink RX0 26 yX0_has, Cond.methodLink RX0 30 yX0_cellAt, Cond.methodLink RX3 83 yX3_column, Cond.instanceMethod yX3_column, Cond.selects RX3 yX3_column yX3_column, Cond.code yX3_column cX3_column 1 (some .int), Cond.static yX0_columnOf, Cond.code yX0_columnOf cX0_columnOf 1 (some .int), Cond.methodLink RX3 91 yX3_row, Cond.instanceMethod yX3_row, Cond.selects RX3 yX3_row yX3_row, Cond.code yX3_row cX3_row 1 (some .int), Cond.static yX0_rowOf, Cond.code yX0_rowOf cX0_rowOf 1 (some .int), Cond.methodLink RL 105 yX4_put, Cond.instanceMethod yX4_put, Cond.selects RX4 yX4_put yX4_put, Cond.code yX4_put cX4_put 4 (some .int), Cond.methodLink RX4 125 Lib.Math.abs.name, Cond.methodLink RL 106 yL_roll, Cond.static yL_roll]
def wsL_law0_r10 : List Cond := [Cond.codeWith yL_roll cL_roll 4 (some .int) [(0, 9, 12, 19), (0, 9, 15, 21)], Cond.methodLink RL 32 yX3_roll, Cond.instanceMethod yX3_roll, Cond.selects RX3 yX3_roll yX3_roll, Cond.code yX3_roll cX3_roll 2 (some .int), Cond.methodLink RX3 99 yX3_checkDirection, Cond.static yX3_checkDirection, Cond.code yX3_checkDirection cX3_checkDirection 1 none, Cond.methodLink RX3 102 yX3_rollOnce, Cond.instanceMethod yX3_rollOnce, Cond.selects RX3 yX3_rollOnce yX3_rollOnce, Cond.code yX3_rollOnce cX3_rollOnce 3 (some .boolean), Cond.instanceMethod yX0_nextCell, Cond.selects RX0 yX0_nextCell yX0_nextCell, Cond.code yX0_nextCell cX0_nextCell 5 (some .int), Cond.methodLink RX0 34 yX0_columnOf, Cond.methodLink RX0 38 yX0_rowOf, Cond.methodLink RX0 41 yX0_isFree, Cond.static yX2_behindRoll, Cond.initialized RX2, Cond.code yX2_behindRoll cX2_behindRoll 4 (some .int), Cond.methodLink RX2 9 yX2_topOf, Cond.static yX2_topOf, Cond.code yX2_topOf cX2_topOf 1 (some .int)]
def wsL_law0_r11 : List Cond := [Cond.methodLink RX2 15 yX2_northOf, Cond.static yX2_northOf, Cond.code yX2_northOf cX2_northOf 1 (some .int), Cond.methodLink RX2 24 yX2_with, Cond.static yX2_with, Cond.code yX2_with cX2_with 2 (some .int), Cond.methodLink RX2 21 yX2_eastOf, Cond.static yX2_eastOf, Cond.code yX2_eastOf cX2_eastOf 5 (some .int), Cond.methodLink RX2 18 yX2_axisOf, Cond.static yX2_axisOf, Cond.code yX2_axisOf cX2_axisOf 1 (some .int), Cond.methodLink RX3 216 yX3_printHere, Cond.instanceMethod yX3_printHere, Cond.selects RX3 yX3_printHere yX3_printHere, Cond.code yX3_printHere cX3_printHere 2 none, Cond.methodLink RX3 107 yX3_bottom, Cond.instanceMethod yX3_bottom, Cond.selects RX3 yX3_bottom yX3_bottom, Cond.code yX3_bottom cX3_bottom 1 (some .int), Cond.methodLink RX3 121 yX3_top, Cond.instanceMethod yX3_top, Cond.selects RX3 yX3_top yX3_top, Cond.code yX3_top cX3_top 1 (some .int)]
def wsL_law0_r12 : List Cond := [Cond.instanceMethod yX0_printOnto, Cond.selects RX0 yX0_printOnto yX0_printOnto, Cond.code yX0_printOnto cX0_printOnto 3 none, Cond.methodLink RL 109 yX4_roll, Cond.instanceMethod yX4_roll, Cond.selects RX4 yX4_roll yX4_roll, Cond.code yX4_roll cX4_roll 2 (some .int), Cond.methodLink RX4 128 yX4_isSide, Cond.static yX4_isSide, Cond.code yX4_isSide cX4_isSide 1 (some .boolean), Cond.methodLink RX4 131 yX4_rolled, Cond.instanceMethod yX4_rolled, Cond.selects RX4 yX4_rolled yX4_rolled, Cond.code yX4_rolled cX4_rolled 4 (some .boolean), Cond.fieldLink RX4 87 "PaintedDieModel" "itsCell" "I", Cond.fieldLink RX4 90 "PaintedDieModel" "itsTop" "I", Cond.fieldLink RX4 93 "PaintedDieModel" "itsNorth" "I", Cond.fieldLink RX4 96 "PaintedDieModel" "itsEast" "I", Cond.methodLink RX4 99 yX4_beside, Cond.instanceMethod yX4_beside, Cond.selects RX4 yX4_beside yX4_beside, Cond.code yX4_beside cX4_beside 5 (some .int), Cond.methodLink RX4 103 yX4_look, Cond.instanceMethod yX4_look]
def wsL_law0_r13 : List Cond := [Cond.selects RX4 yX4_look yX4_look, Cond.code yX4_look cX4_look 1 none, Cond.methodLink RX4 106 yX4_tip, Cond.instanceMethod yX4_tip, Cond.selects RX4 yX4_tip yX4_tip, Cond.code yX4_tip cX4_tip 4 none, Cond.methodLink RL 110 yL_rollOn, Cond.static yL_rollOn, Cond.codeWith yL_rollOn cL_rollOn 5 (some .int) [(0, 10, 13, 19), (0, 10, 17, 13)], Cond.methodLink RL 36 yX3_rollOn, Cond.instanceMethod yX3_rollOn, Cond.selects RX3 yX3_rollOn yX3_rollOn, Cond.code yX3_rollOn cX3_rollOn 4 (some .int), Cond.methodLink RL 112 yX4_rollOn, Cond.instanceMethod yX4_rollOn, Cond.selects RX4 yX4_rollOn yX4_rollOn, Cond.code yX4_rollOn cX4_rollOn 3 (some .int), Cond.methodLink RX4 134 yX4_rolledOn, Cond.instanceMethod yX4_rolledOn, Cond.selects RX4 yX4_rolledOn yX4_rolledOn, Cond.code yX4_rolledOn cX4_rolledOn 4 (some .int), Cond.methodLink RL 113 yX3_column, Cond.methodLink RL 116 yX4_column, Cond.instanceMethod yX4_column]
def wsL_law0_r14 : List Cond := [Cond.selects RX4 yX4_column yX4_column, Cond.code yX4_column cX4_column 1 (some .int), Cond.methodLink RX4 137 yX4_ok, Cond.instanceMethod yX4_ok, Cond.selects RX4 yX4_ok yX4_ok, Cond.code yX4_ok cX4_ok 2 (some .int), Cond.methodLink RL 117 yX3_row, Cond.methodLink RL 120 yX4_row, Cond.instanceMethod yX4_row, Cond.selects RX4 yX4_row yX4_row, Cond.code yX4_row cX4_row 1 (some .int), Cond.methodLink RL 121 yX3_top, Cond.methodLink RL 124 yX4_top, Cond.instanceMethod yX4_top, Cond.selects RX4 yX4_top yX4_top, Cond.code yX4_top cX4_top 1 (some .int), Cond.methodLink RL 125 yX3_bottom, Cond.methodLink RL 128 yX4_bottom, Cond.instanceMethod yX4_bottom, Cond.selects RX4 yX4_bottom yX4_bottom, Cond.code yX4_bottom cX4_bottom 1 (some .int), Cond.methodLink RL 129 yL_faceTo, Cond.static yL_faceTo, Cond.codeWith yL_faceTo cL_faceTo 4 (some .int) [(0, 9, 12, 19)]]
def wsL_law0_r15 : List Cond := [Cond.methodLink RL 39 yX3_faceTo, Cond.instanceMethod yX3_faceTo, Cond.selects RX3 yX3_faceTo yX3_faceTo, Cond.code yX3_faceTo cX3_faceTo 2 (some .int), Cond.static yX2_faceOn, Cond.code yX2_faceOn cX2_faceOn 2 (some .int), Cond.methodLink RL 131 yX4_faceTo, Cond.instanceMethod yX4_faceTo, Cond.selects RX4 yX4_faceTo yX4_faceTo, Cond.code yX4_faceTo cX4_faceTo 2 (some .int), Cond.methodLink RX4 140 yX4_side, Cond.instanceMethod yX4_side, Cond.selects RX4 yX4_side yX4_side, Cond.code yX4_side cX4_side 2 (some .int), Cond.methodLink RL 132 yX3_isAsAtFirst, Cond.instanceMethod yX3_isAsAtFirst, Cond.selects RX3 yX3_isAsAtFirst yX3_isAsAtFirst, Cond.code yX3_isAsAtFirst cX3_isAsAtFirst 1 (some .boolean), Cond.methodLink RL 136 yX4_isAsAtFirst, Cond.instanceMethod yX4_isAsAtFirst, Cond.selects RX4 yX4_isAsAtFirst yX4_isAsAtFirst, Cond.code yX4_isAsAtFirst cX4_isAsAtFirst 1 (some .boolean), Cond.methodLink RL 137 yL_colourOf, Cond.static yL_colourOf]
def wsL_law0_r16 : List Cond := [Cond.codeWith yL_colourOf cL_colourOf 4 (some .int) [(0, 9, 12, 19)], Cond.methodLink RL 42 yX3_colourOf, Cond.instanceMethod yX3_colourOf, Cond.selects RX3 yX3_colourOf yX3_colourOf, Cond.code yX3_colourOf cX3_colourOf 2 (some .int), Cond.methodLink RL 139 yX4_colourOf, Cond.instanceMethod yX4_colourOf, Cond.selects RX4 yX4_colourOf yX4_colourOf, Cond.code yX4_colourOf cX4_colourOf 2 (some .int), Cond.methodLink RL 140 yL_paintOf, Cond.static yL_paintOf, Cond.codeWith yL_paintOf cL_paintOf 4 (some .int) [(0, 9, 12, 19)], Cond.methodLink RL 45 yX3_paintOf, Cond.instanceMethod yX3_paintOf, Cond.selects RX3 yX3_paintOf yX3_paintOf, Cond.code yX3_paintOf cX3_paintOf 2 (some .int), Cond.methodLink RL 142 yX4_paintOf, Cond.instanceMethod yX4_paintOf, Cond.selects RX4 yX4_paintOf yX4_paintOf, Cond.code yX4_paintOf cX4_paintOf 2 (some .int), Cond.methodLink RL 143 yL_isWall, Cond.static yL_isWall, Cond.codeWith yL_isWall cL_isWall 5 (some .int) [(0, 17, 20, 19)], Cond.methodLink RL 48 yX3_isWall]
def wsL_law0_r17 : List Cond := [Cond.instanceMethod yX3_isWall, Cond.selects RX3 yX3_isWall yX3_isWall, Cond.code yX3_isWall cX3_isWall 3 (some .boolean), Cond.methodLink RL 145 yX4_isWall, Cond.instanceMethod yX4_isWall, Cond.selects RX4 yX4_isWall yX4_isWall, Cond.code yX4_isWall cX4_isWall 3 (some .boolean), Cond.methodLink RL 146 yL_printAt, Cond.static yL_printAt, Cond.codeWith yL_printAt cL_printAt 5 (some .int) [(0, 10, 13, 19)], Cond.methodLink RL 51 yX3_printAt, Cond.instanceMethod yX3_printAt, Cond.selects RX3 yX3_printAt yX3_printAt, Cond.code yX3_printAt cX3_printAt 3 (some .int), Cond.instanceMethod yX0_printOn, Cond.selects RX0 yX0_printOn yX0_printOn, Cond.code yX0_printOn cX0_printOn 3 (some .int), Cond.methodLink RL 148 yX4_printAt, Cond.instanceMethod yX4_printAt, Cond.selects RX4 yX4_printAt yX4_printAt, Cond.code yX4_printAt cX4_printAt 3 (some .int), Cond.methodLink RL 149 yL_canRoll, Cond.static yL_canRoll, Cond.codeWith yL_canRoll cL_canRoll 4 (some .int) [(0, 16, 19, 19)]]
def wsL_law0_r18 : List Cond := [Cond.methodLink RL 54 yX3_canRoll, Cond.instanceMethod yX3_canRoll, Cond.selects RX3 yX3_canRoll yX3_canRoll, Cond.code yX3_canRoll cX3_canRoll 2 (some .boolean), Cond.methodLink RL 151 yX4_canRoll, Cond.instanceMethod yX4_canRoll, Cond.selects RX4 yX4_canRoll yX4_canRoll, Cond.code yX4_canRoll cX4_canRoll 2 (some .boolean), Cond.methodLink RL 152 yX3_width, Cond.instanceMethod yX3_width, Cond.selects RX3 yX3_width yX3_width, Cond.code yX3_width cX3_width 1 (some .int), Cond.methodLink RL 155 yX4_width, Cond.instanceMethod yX4_width, Cond.selects RX4 yX4_width yX4_width, Cond.code yX4_width cX4_width 1 (some .int), Cond.methodLink RL 156 yX3_height, Cond.instanceMethod yX3_height, Cond.selects RX3 yX3_height yX3_height, Cond.code yX3_height cX3_height 1 (some .int), Cond.methodLink RL 159 yX4_height, Cond.instanceMethod yX4_height, Cond.selects RX4 yX4_height yX4_height, Cond.code yX4_height cX4_height 1 (some .int)]
def wsL_law0_r19 : List Cond := [Cond.methodLink RL 160 yX3_walls, Cond.instanceMethod yX3_walls, Cond.selects RX3 yX3_walls yX3_walls, Cond.code yX3_walls cX3_walls 1 (some .int), Cond.instanceMethod yX0_countWalls, Cond.selects RX0 yX0_countWalls yX0_countWalls, Cond.code yX0_countWalls cX0_countWalls 3 (some .int), Cond.methodLink RL 163 yX4_walls, Cond.instanceMethod yX4_walls, Cond.selects RX4 yX4_walls yX4_walls, Cond.code yX4_walls cX4_walls 1 (some .int), Cond.methodLink RX4 143 yX4_wallsThere, Cond.instanceMethod yX4_wallsThere, Cond.selects RX4 yX4_wallsThere yX4_wallsThere, Cond.code yX4_wallsThere cX4_wallsThere 3 (some .int), Cond.methodLink RL 164 yX3_rolls, Cond.instanceMethod yX3_rolls, Cond.selects RX3 yX3_rolls yX3_rolls, Cond.code yX3_rolls cX3_rolls 1 (some .int), Cond.methodLink RL 167 yX4_rolls, Cond.instanceMethod yX4_rolls, Cond.selects RX4 yX4_rolls yX4_rolls, Cond.code yX4_rolls cX4_rolls 1 (some .int), Cond.methodLink RL 168 yX3_prints]
def wsL_law0_r20 : List Cond := [Cond.instanceMethod yX3_prints, Cond.selects RX3 yX3_prints yX3_prints, Cond.code yX3_prints cX3_prints 1 (some .int), Cond.methodLink RL 171 yX4_prints, Cond.instanceMethod yX4_prints, Cond.selects RX4 yX4_prints yX4_prints, Cond.code yX4_prints cX4_prints 1 (some .int), Cond.methodLink RL 172 yL_cellsWith, Cond.static yL_cellsWith, Cond.codeWith yL_cellsWith cL_cellsWith 4 (some .int) [(0, 9, 12, 19)], Cond.methodLink RL 58 yX3_cellsWith, Cond.instanceMethod yX3_cellsWith, Cond.selects RX3 yX3_cellsWith yX3_cellsWith, Cond.code yX3_cellsWith cX3_cellsWith 2 (some .int), Cond.instanceMethod yX0_countPrints, Cond.selects RX0 yX0_countPrints yX0_countPrints, Cond.code yX0_countPrints cX0_countPrints 5 (some .int), Cond.methodLink RX0 44 yX0_printOn, Cond.methodLink RL 174 yX4_cellsWith, Cond.instanceMethod yX4_cellsWith, Cond.selects RX4 yX4_cellsWith yX4_cellsWith, Cond.code yX4_cellsWith cX4_cellsWith 4 (some .int), Cond.methodLink RL 175 yL_fewestRolls, Cond.static yL_fewestRolls]
def wsL_law0_r21 : List Cond := [Cond.codeWith yL_fewestRolls cL_fewestRolls 5 (some .int) [(0, 10, 13, 19)], Cond.methodLink RL 61 yX3_fewestRolls, Cond.instanceMethod yX3_fewestRolls, Cond.selects RX3 yX3_fewestRolls yX3_fewestRolls, Cond.code yX3_fewestRolls cX3_fewestRolls 3 (some .int), Cond.methodLink RX3 156 yX3_searchFromHere, Cond.instanceMethod yX3_searchFromHere, Cond.selects RX3 yX3_searchFromHere yX3_searchFromHere, Cond.code yX3_searchFromHere cX3_searchFromHere 1 none, Cond.instanceMethod yX1_forget, Cond.selects RX1 yX1_forget yX1_forget, Cond.code yX1_forget cX1_forget 1 none, Cond.fieldLink RX1 26 "PaintedDie$Search" "found" "I", Cond.methodLink RX1 20 yJ7_fill_53178, Cond.static yJ7_fill_53178, Cond.initialized RJ7, Cond.code yJ7_fill_53178 cJ7_fill_53178 4 none, Cond.instanceMethod yX1_reach, Cond.selects RX1 yX1_reach yX1_reach, Cond.code yX1_reach cX1_reach 5 none, Cond.instanceMethod yX1_spread, Cond.selects RX1 yX1_spread yX1_spread, Cond.code yX1_spread cX1_spread 8 none, Cond.methodLink RX1 30 yX1_rollsAt]
def wsL_law0_r22 : List Cond := [Cond.instanceMethod yX1_rollsAt, Cond.selects RX1 yX1_rollsAt yX1_rollsAt, Cond.code yX1_rollsAt cX1_rollsAt 4 (some .int), Cond.methodLink RX1 42 yX1_reach, Cond.instanceMethod yX1_fewestTo, Cond.selects RX1 yX1_fewestTo yX1_fewestTo, Cond.code yX1_fewestTo cX1_fewestTo 4 (some .int), Cond.methodLink RX1 52 yX1_fewestWithTop, Cond.instanceMethod yX1_fewestWithTop, Cond.selects RX1 yX1_fewestWithTop yX1_fewestWithTop, Cond.code yX1_fewestWithTop cX1_fewestWithTop 5 (some .int), Cond.methodLink RX1 49 yX1_fewerOf, Cond.static yX1_fewerOf, Cond.code yX1_fewerOf cX1_fewerOf 2 (some .int), Cond.methodLink RX1 55 Lib.Math.min.name, Cond.methodLink RL 177 yX4_fewestRolls, Cond.instanceMethod yX4_fewestRolls, Cond.selects RX4 yX4_fewestRolls yX4_fewestRolls, Cond.code yX4_fewestRolls cX4_fewestRolls 3 (some .int), Cond.methodLink RX4 166 yX4_fewest, Cond.instanceMethod yX4_fewest, Cond.selects RX4 yX4_fewest yX4_fewest, Cond.code yX4_fewest cX4_fewest 3 (some .int), Cond.methodLink RX4 160 yX4_spread]
def wsL_law0_r23 : List Cond := [Cond.instanceMethod yX4_spread, Cond.selects RX4 yX4_spread yX4_spread, Cond.code yX4_spread cX4_spread 4 none, Cond.fieldLink RX4 147 "PaintedDieModel" "reached" "I", Cond.methodLink RX4 150 yX4_reach, Cond.instanceMethod yX4_reach, Cond.selects RX4 yX4_reach yX4_reach, Cond.code yX4_reach cX4_reach 3 none, Cond.methodLink RX4 154 yX4_lookAt, Cond.instanceMethod yX4_lookAt, Cond.selects RX4 yX4_lookAt yX4_lookAt, Cond.code yX4_lookAt cX4_lookAt 2 none, Cond.methodLink RX4 157 yX4_farOf, Cond.instanceMethod yX4_farOf, Cond.selects RX4 yX4_farOf yX4_farOf, Cond.code yX4_farOf cX4_farOf 2 (some .int), Cond.methodLink RX4 163 yX4_fewestTo, Cond.instanceMethod yX4_fewestTo, Cond.selects RX4 yX4_fewestTo yX4_fewestTo, Cond.code yX4_fewestTo cX4_fewestTo 4 (some .int), Cond.methodLink RL 178 yL_fewestRollsWithTop, Cond.static yL_fewestRollsWithTop, Cond.codeWith yL_fewestRollsWithTop cL_fewestRollsWithTop 6 (some .int) [(0, 12, 15, 19)], Cond.methodLink RL 64 yX3_fewestRollsWithTop]
def wsL_law0_r24 : List Cond := [Cond.instanceMethod yX3_fewestRollsWithTop, Cond.selects RX3 yX3_fewestRollsWithTop yX3_fewestRollsWithTop, Cond.code yX3_fewestRollsWithTop cX3_fewestRollsWithTop 4 (some .int), Cond.methodLink RL 181 yX4_fewestRollsWithTop, Cond.instanceMethod yX4_fewestRollsWithTop, Cond.selects RX4 yX4_fewestRollsWithTop yX4_fewestRollsWithTop, Cond.code yX4_fewestRollsWithTop cX4_fewestRollsWithTop 4 (some .int), Cond.methodLink RL 182 yL_firstRoll, Cond.static yL_firstRoll, Cond.codeWith yL_firstRoll cL_firstRoll 6 (some .int) [(0, 12, 15, 19)], Cond.methodLink RL 68 yX3_firstRoll, Cond.instanceMethod yX3_firstRoll, Cond.selects RX3 yX3_firstRoll yX3_firstRoll, Cond.code yX3_firstRoll cX3_firstRoll 7 (some .int), Cond.methodLink RX3 165 yX3_searchBackFrom, Cond.instanceMethod yX3_searchBackFrom, Cond.selects RX3 yX3_searchBackFrom yX3_searchBackFrom, Cond.code yX3_searchBackFrom cX3_searchBackFrom 4 none, Cond.instanceMethod yX0_isFreeCell, Cond.selects RX0 yX0_isFreeCell yX0_isFreeCell, Cond.code yX0_isFreeCell cX0_isFreeCell 2 (some .boolean), Cond.methodLink RL 184 yX4_firstRoll, Cond.instanceMethod yX4_firstRoll, Cond.selects RX4 yX4_firstRoll yX4_firstRoll]
def wsL_law0_r25 : List Cond := [Cond.code yX4_firstRoll cX4_firstRoll 4 (some .int), Cond.methodLink RX4 169 yX4_first, Cond.instanceMethod yX4_first, Cond.selects RX4 yX4_first yX4_first, Cond.code yX4_first cX4_first 6 (some .int), Cond.methodLink RL 185 yL_topsAt, Cond.static yL_topsAt, Cond.codeWith yL_topsAt cL_topsAt 5 (some .int) [(0, 10, 13, 19)], Cond.methodLink RL 71 yX3_topsAt, Cond.instanceMethod yX3_topsAt, Cond.selects RX3 yX3_topsAt yX3_topsAt, Cond.code yX3_topsAt cX3_topsAt 3 (some .int), Cond.instanceMethod yX1_countTops, Cond.selects RX1 yX1_countTops yX1_countTops, Cond.code yX1_countTops cX1_countTops 4 (some .int), Cond.methodLink RL 187 yX4_topsAt, Cond.instanceMethod yX4_topsAt, Cond.selects RX4 yX4_topsAt yX4_topsAt, Cond.code yX4_topsAt cX4_topsAt 3 (some .int), Cond.methodLink RX4 172 yX4_topsOn, Cond.instanceMethod yX4_topsOn, Cond.selects RX4 yX4_topsOn yX4_topsOn, Cond.code yX4_topsOn cX4_topsOn 4 (some .int), Cond.methodLink RL 188 yX3_cellsWithinReach]
def wsL_law0_r26 : List Cond := [Cond.instanceMethod yX3_cellsWithinReach, Cond.selects RX3 yX3_cellsWithinReach yX3_cellsWithinReach, Cond.code yX3_cellsWithinReach cX3_cellsWithinReach 3 (some .int), Cond.methodLink RL 191 yX4_cellsWithinReach, Cond.instanceMethod yX4_cellsWithinReach, Cond.selects RX4 yX4_cellsWithinReach yX4_cellsWithinReach, Cond.code yX4_cellsWithinReach cX4_cellsWithinReach 3 (some .int), Cond.methodLink RL 192 yX3_waysToLie, Cond.instanceMethod yX3_waysToLie, Cond.selects RX3 yX3_waysToLie yX3_waysToLie, Cond.code yX3_waysToLie cX3_waysToLie 1 (some .int), Cond.methodLink RL 195 yX4_waysToLie, Cond.instanceMethod yX4_waysToLie, Cond.selects RX4 yX4_waysToLie yX4_waysToLie, Cond.code yX4_waysToLie cX4_waysToLie 1 (some .int), Cond.methodLink RL 196 yL_cellsBehind, Cond.static yL_cellsBehind, Cond.codeWith yL_cellsBehind cL_cellsBehind 4 (some .int) [(0, 9, 12, 13)], Cond.methodLink RL 74 yX3_cellsBehind, Cond.instanceMethod yX3_cellsBehind, Cond.selects RX3 yX3_cellsBehind yX3_cellsBehind, Cond.code yX3_cellsBehind cX3_cellsBehind 5 (some .int), Cond.methodLink RX3 182 yX3_isShutIn, Cond.instanceMethod yX3_isShutIn]
def wsL_law0_r27 : List Cond := [Cond.selects RX3 yX3_isShutIn yX3_isShutIn, Cond.code yX3_isShutIn cX3_isShutIn 2 (some .boolean), Cond.methodLink RL 198 yX4_cellsBehind, Cond.instanceMethod yX4_cellsBehind, Cond.selects RX4 yX4_cellsBehind yX4_cellsBehind, Cond.code yX4_cellsBehind cX4_cellsBehind 2 (some .int), Cond.methodLink RX4 184 yX4_behind, Cond.instanceMethod yX4_behind, Cond.selects RX4 yX4_behind yX4_behind, Cond.code yX4_behind cX4_behind 7 (some .int), Cond.methodLink RX4 181 yX4_goOn, Cond.instanceMethod yX4_goOn, Cond.selects RX4 yX4_goOn yX4_goOn, Cond.code yX4_goOn cX4_goOn 4 none, Cond.methodLink RX4 175 arraycopyName, Cond.native arraycopyName, Cond.static arraycopyName, Cond.initialized "java/lang/System", Cond.methodLink RL 199 yL_bestPut, Cond.static yL_bestPut, Cond.codeWith yL_bestPut cL_bestPut 4 (some .int) [(0, 9, 12, 19)], Cond.methodLink RL 77 yX3_bestPut, Cond.instanceMethod yX3_bestPut, Cond.selects RX3 yX3_bestPut yX3_bestPut]
def wsL_law0_r28 : List Cond := [Cond.code yX3_bestPut cX3_bestPut 7 (some .int), Cond.methodLink RL 201 yX4_bestPut, Cond.instanceMethod yX4_bestPut, Cond.selects RX4 yX4_bestPut yX4_bestPut, Cond.code yX4_bestPut cX4_bestPut 2 (some .int), Cond.methodLink RX4 190 yX4_best, Cond.instanceMethod yX4_best, Cond.selects RX4 yX4_best yX4_best, Cond.code yX4_best cX4_best 6 (some .int), Cond.methodLink RX4 187 yX4_lookFirst, Cond.instanceMethod yX4_lookFirst, Cond.selects RX4 yX4_lookFirst yX4_lookFirst, Cond.code yX4_lookFirst cX4_lookFirst 2 none, Cond.methodLink RL 202 yX3_meanPaint, Cond.instanceMethod yX3_meanPaint, Cond.selects RX3 yX3_meanPaint yX3_meanPaint, Cond.code yX3_meanPaint cX3_meanPaint 3 (some .double), Cond.constantDouble RX3 186 (4618441417868443648), Cond.methodLink RL 206 yX4_meanPaint, Cond.instanceMethod yX4_meanPaint, Cond.selects RX4 yX4_meanPaint yX4_meanPaint, Cond.code yX4_meanPaint cX4_meanPaint 3 (some .double), Cond.constantDouble RX4 193 (4618441417868443648), Cond.methodLink RL 207 yX3_digest]
def wsL_law0_r29 : List Cond := [Cond.instanceMethod yX3_digest, Cond.selects RX3 yX3_digest yX3_digest, Cond.code yX3_digest cX3_digest 4 (some .long), Cond.constantLong RX3 188 (1901), Cond.methodLink RX3 190 yX3_width, Cond.methodLink RX3 192 yX3_joined, Cond.static yX3_joined, Cond.code yX3_joined cX3_joined 3 (some .long), Cond.constantLong RX3 211 (31), Cond.methodLink RX3 196 yX3_height, Cond.methodLink RX3 198 yX3_walls, Cond.methodLink RX3 201 yX3_rolls, Cond.methodLink RX3 204 yX3_prints, Cond.methodLink RX3 207 yX3_joinedWithCells, Cond.instanceMethod yX3_joinedWithCells, Cond.selects RX3 yX3_joinedWithCells yX3_joinedWithCells, Cond.code yX3_joinedWithCells cX3_joinedWithCells 8 (some .long), Cond.methodLink RL 211 yX4_digest, Cond.instanceMethod yX4_digest, Cond.selects RX4 yX4_digest yX4_digest, Cond.code yX4_digest cX4_digest 8 (some .long), Cond.constantLong RX4 195 (1901), Cond.constantLong RX4 197 (31)]
def wsL_law0 : List Cond := (wsL_law0_r1 ++ (wsL_law0_r2 ++ (wsL_law0_r3 ++ (wsL_law0_r4 ++ (wsL_law0_r5 ++ (wsL_law0_r6 ++ (wsL_law0_r7 ++ (wsL_law0_r8 ++ (wsL_law0_r9 ++ (wsL_law0_r10 ++ (wsL_law0_r11 ++ (wsL_law0_r12 ++ (wsL_law0_r13 ++ (wsL_law0_r14 ++ (wsL_law0_r15 ++ (wsL_law0_r16 ++ (wsL_law0_r17 ++ (wsL_law0_r18 ++ (wsL_law0_r19 ++ (wsL_law0_r20 ++ (wsL_law0_r21 ++ (wsL_law0_r22 ++ (wsL_law0_r23 ++ (wsL_law0_r24 ++ (wsL_law0_r25 ++ (wsL_law0_r26 ++ (wsL_law0_r27 ++ (wsL_law0_r28 ++ wsL_law0_r29)))))))))))))))))))))))))))) ++ wsX30 ++ wsX40 ++ wsX00 ++ wsX10 ++ ([] : List Cond)
def wsL_law : List Cond := wsL_law0 ++ (vx_atS RX3 42 "java/lang/IllegalArgumentException" ["java/lang/RuntimeException", "java/lang/Exception"]).filter goodWord ++ (vx_atS RX3 60 "java/lang/IllegalStateException" ["java/lang/RuntimeException", "java/lang/Exception"]).filter goodWord ++ (vx_atS RX3 152 "java/lang/IndexOutOfBoundsException" ["java/lang/RuntimeException", "java/lang/Exception"]).filter goodWord
abbrev vwCl : List vw_C := [(RX0, TX0, 4), (RX1, TX1, 3), (RX3, TX3, 8), (RX4, TX4, 25)]
end
section
/-! ===== the abstract machine: a method's frame and world as lists whose references are places of the world's list ===== -/
abbrev aE : Type := (Bool × Nat × (Nat → Int32)) ⊕ ((Nat × List Value) ⊕ (Nat × (Nat → Int64)))
abbrev aG : Type := va_G × ClassId × ClassId × ClassId
def aV (ad : Nat → Nat) : Value → Value
  | .ref a => .ref (ad a)
  | v => v
def aC (K : aG) (ad : Nat → Nat) : aE → va_E
  | .inl (true, n, f) => .inl (K.2.2.1, n, .inl f)
  | .inl (false, n, f) => .inl (K.2.1, n, .inl f)
  | .inr (.inl o) => .inr (o.1, o.2.map (aV ad))
  | .inr (.inr q) => .inl (K.2.2.2, q.1, .inr (.inl q.2))
def aX (K : aG) (ad : Nat → Nat) : Nat → List aE → va_W
  | _, [] => []
  | i, e :: t => (ad i, aC K ad e) :: aX K ad (i + 1) t
abbrev aT (K : aG) : List (ClassId × FieldType) := [(K.2.1, .int), (K.2.2.1, .boolean), (K.2.2.2, .long)]
def aL (ad : Nat → Nat) (ls : List (Nat × Value)) : List (Nat × Value) := ls.map (fun q => (q.1, aV ad q.2))
theorem aX_get (K : aG) (ad : Nat → Nat) : ∀ (X : List aE) (i k : Nat) (e : aE), X[k]? = some e → (aX K ad i X)[k]? = some (ad (i + k), aC K ad e)
  | [], i, k, e, h => by simp at h
  | x :: t, i, 0, e, h => by
    simp only [List.getElem?_cons_zero, Option.some.injEq] at h
    subst h
    simp [aX]
  | x :: t, i, k + 1, e, h => by
    simp only [List.getElem?_cons_succ] at h
    have := aX_get K ad t (i + 1) k e h
    simp only [aX, List.getElem?_cons_succ]
    rw [this, show i + 1 + k = i + (k + 1) by omega]
theorem aX_set (K : aG) (ad : Nat → Nat) : ∀ (X : List aE) (i k : Nat) (e : aE), (aX K ad i X).set k (ad (i + k), aC K ad e) = aX K ad i (X.set k e)
  | [], i, k, e => by simp [aX]
  | x :: t, i, 0, e => by simp [aX]
  | x :: t, i, k + 1, e => by
    have := aX_set K ad t (i + 1) k e
    simp only [aX, List.set_cons_succ]
    rw [← this, show i + 1 + k = i + (k + 1) by omega]
theorem aV_cat (ad : Nat → Nat) (v : Value) : (aV ad v).category = v.category := by cases v <;> rfl
theorem aL_get (ad : Nat → Nat) {ls : List (Nat × Value)} {j i : Nat} {v : Value} (h : ls[j]? = some (i, v)) : (aL ad ls)[j]? = some (i, aV ad v) := by
  unfold aL
  rw [List.getElem?_map, h]
  rfl
theorem aS_get (ad : Nat → Nat) {fs : List Value} {j : Nat} {v : Value} (h : fs[j]? = some v) : (fs.map (aV ad))[j]? = some (aV ad v) := by
  rw [List.getElem?_map, h]
  rfl
/-! the context of a body -/
abbrev aΓ : Type := Program × Launch × Env × Room × State × MethodId × Array Value × List Frame × Method × Code × (State → Prop) × aG × (Nat → Prop) × Nat
def FG (Γ : aΓ) (pc : Nat) (ad : Nat → Nat) (k n : Nat) (ls : List (Nat × Value)) (st : List Value) (X : List aE) : Prop :=
  match Γ with
  | (p, l, e, R, s, m, args, below, meth, c, Q, K, A, nL) => ∀ (H : Heap) (locs : List Loc) (la : Array Slot), va_P K.1 vwCl (aX K ad 0 X) H → va_D A (aX K ad 0 X) → va_S A s.heap H locs → lv_has la nL (aL ad ls) →
    W p l e R s m args below meth c H locs k n Q (F0 m pc la (st.map (aV ad)))
def aNf : List (Nat × String × String) := [(133, "PaintedDie$Board", "width"), (136, "PaintedDie$Board", "height"), (177, "PaintedDie$Search", "found")]
/-- what the tables say beside the words of a method's list: nest mates' members -/
def aNst (N : List (String × Nat × MethodName)) (U : State) : Prop := (∀ q ∈ aNf, va_Nw (.fieldLinkNest "PaintedDie" q.1 q.2.1 q.2.2 "I" "PaintedDie") U) ∧ ∀ q ∈ N, va_Nw (.methodLinkNest q.1 q.2.1 q.2.2 "PaintedDie") U
theorem aNst.warm {N : List (String × Nat × MethodName)} {s U : State} (hW : s.WarmedH U.vm) (h : aNst N s) : aNst N U := ⟨fun q hq => (h.1 q hq).warmF hW, fun q hq => (h.2 q hq).warmM hW⟩
theorem aNst.same {N : List (String × Nat × MethodName)} {s U : State} (hv : s.vm = U.vm) (h : aNst N s) : aNst N U := ⟨fun q hq => (h.1 q hq).same rfl hv, fun q hq => (h.2 q hq).same rfl hv⟩
def aStr (S : List (String × Nat × String)) (U : State) : Prop := ∀ q ∈ S, ∃ a, vk_R q.1 q.2.1 q.2.2 a U
theorem aStr.warm {S : List (String × Nat × String)} {s U : State} (hW : s.WarmedH U.vm) (h : aStr S s) : aStr S U := fun q hq => by
  obtain ⟨a, h⟩ := h q hq
  exact ⟨a, h.warm hW⟩
theorem aStr.same {S : List (String × Nat × String)} {s U : State} (hv : s.vm = U.vm) (h : aStr S s) : aStr S U := fun q hq => by
  obtain ⟨a, h⟩ := h q hq
  exact ⟨a, vk_R.same hv.symm h⟩
def aNm : List (String × Nat × MethodName) := [("PaintedDie", 11, yX0_init), ("PaintedDie", 112, yX0_columnOf), ("PaintedDie", 115, yX0_rowOf), ("PaintedDie", 118, yX2_topOf), ("PaintedDie", 124, yX2_faceOn), ("PaintedDie", 127, yX0_printOn), ("PaintedDie", 130, yX0_nextCell), ("PaintedDie", 139, yX0_countWalls), ("PaintedDie", 153, yX0_countPrints), ("PaintedDie", 159, yX1_fewestTo), ("PaintedDie", 162, yX1_fewestWithTop), ("PaintedDie", 168, yX1_rollsAt), ("PaintedDie", 171, yX2_behindRoll), ("PaintedDie", 174, yX1_countTops), ("PaintedDie", 18, yX1_init), ("PaintedDie", 213, yX0_layOut), ("PaintedDie", 222, yX0_printOnto), ("PaintedDie", 225, yX1_forget), ("PaintedDie", 228, yX1_reach), ("PaintedDie", 232, yX1_spread), ("PaintedDie", 236, yX0_isFreeCell), ("PaintedDie", 239, yX2_with), ("PaintedDie", 242, yX0_has), ("PaintedDie", 48, yX0_cellAt), ("PaintedDie", 61, yX0_turnOver), ("PaintedDie", 77, yX0_isFree), ("PaintedDie$Search", 34, yX0_nextCell), ("PaintedDie$Search", 39, yX2_behindRoll), ("PaintedDie$Search", 46, yX2_with)]
def aSt : List (String × Nat × String) := [("PaintedDie", 105, "this roll cannot be made"), ("PaintedDie", 110, "rolls are 1 to 50"), ("PaintedDie", 150, "a print is 0 to 9"), ("PaintedDie", 180, "rolls are 0 to 20"), ("PaintedDie", 245, "there is no such cell"), ("PaintedDie", 247, "a face is 1 to 6"), ("PaintedDie", 249, "a direction is 0 to 3"), ("PaintedDie", 40, "a board is 2 to 7 cells wide and high"), ("PaintedDie", 58, "the die lies there"), ("PaintedDie", 68, "a colour is 1 to 9"), ("PaintedDie", 70, "paint is given from 1 to 20"), ("PaintedDie", 81, "a wall is there")]
def aB (U : State) : Prop := aNst aNm U ∧ aStr aSt U
theorem aB.warm {s U : State} (hW : s.WarmedH U.vm) (h : aB s) : aB U := ⟨h.1.warm hW, h.2.warm hW⟩
theorem aB.same {s U : State} (hv : s.vm = U.vm) (h : aB s) : aB U := ⟨h.1.same hv, h.2.same hv⟩
/-- the facts of a body -/
def FOK (Γ : aΓ) (cc : ByteArray) (Ts : List Cond) (own : String) (nL : Nat) (rm : Room) : Prop :=
  match Γ with
  | (p, _, _, R, s, m, args, _, _, c, _, K, A, nL') => p.tables.exec = Jvm.exec ∧ c.code = cc ∧ c.maxLocals = nL ∧ s.vm.findClass own = some m.cls ∧ (∀ w ∈ Ts, w.before args s = true) ∧ va_K K.1 vwCl (aT K) s ∧ (∀ q, s.heap.size ≤ q → A q) ∧ nL' = nL ∧ R = rm ∧ aB s
abbrev aK : Type := Nat → (Nat → Nat) → Nat → Nat → List (Nat × Value) → List Value → List aE → Prop
abbrev aO : Type := aK → (Nat → Nat) → Nat → Nat → List (Nat × Value) → List Value → List aE → Prop
def Snd (Γ : aΓ) (pc : Nat) (o : aO) : Prop := ∀ K : aK, (∀ pc ad k n ls st X, K pc ad k n ls st X → FG Γ pc ad k n ls st X) → ∀ ad k n ls st X, o K ad k n ls st X → FG Γ pc ad k n ls st X
def AllS (Γ : aΓ) (tb : List (Nat × aO)) : Prop := ∀ q ∈ tb, Snd Γ q.1 q.2
theorem al_0 {Γ : aΓ} : AllS Γ [] := fun _ h => by cases h
theorem al_c {Γ : aΓ} {pc : Nat} {o : aO} {t : List (Nat × aO)} (h : Snd Γ pc o) (ht : AllS Γ t) : AllS Γ ((pc, o) :: t) := fun q hq => by
  rcases List.mem_cons.mp hq with rfl | hq
  · exact h
  · exact ht q hq
def lku (pc : Nat) : List (Nat × aO) → aO
  | [] => fun _ _ _ _ _ _ _ => False
  | q :: t => match Nat.beq q.1 pc with
    | true => q.2
    | false => lku pc t
theorem lku_snd {Γ : aΓ} {tb : List (Nat × aO)} (h : AllS Γ tb) (pc : Nat) : Snd Γ pc (lku pc tb) := by
  induction tb with
  | nil => exact fun K hK ad k n ls st X hf => hf.elim
  | cons q t ih =>
    unfold lku
    cases e : Nat.beq q.1 pc with
    | true =>
      have := h q List.mem_cons_self
      rw [Nat.eq_of_beq_eq_true e] at this
      exact this
    | false => exact ih fun q hq => h q (List.mem_cons_of_mem _ hq)
def isIn (pc : Nat) : List Nat → Bool
  | [] => false
  | q :: t => match Nat.beq q pc with
    | true => true
    | false => isIn pc t
noncomputable def run (Γ : aΓ) (tb : List (Nat × aO)) (cuts : List Nat) (f : Nat) : aK :=
  Nat.rec (motive := fun _ => aK) (FG Γ) (fun _ ih pc ad k n ls st X => match isIn pc cuts with
    | true => FG Γ pc ad k n ls st X
    | false => lku pc tb ih ad k n ls st X) f
theorem run_snd {Γ : aΓ} {tb : List (Nat × aO)} (h : AllS Γ tb) (cuts : List Nat) : ∀ (f pc : Nat) (ad : Nat → Nat) (k n : Nat) (ls : List (Nat × Value)) (st : List Value) (X : List aE), run Γ tb cuts f pc ad k n ls st X → FG Γ pc ad k n ls st X
  | 0, _, _, _, _, _, _, _, hr => hr
  | f + 1, pc, ad, k, n, ls, st, X, hr => by
    have hr' : (match isIn pc cuts with
      | true => FG Γ pc ad k n ls st X
      | false => lku pc tb (run Γ tb cuts f) ad k n ls st X) := hr
    split at hr'
    · exact hr'
    · exact lku_snd h pc _ (run_snd h cuts f) ad k n ls st X hr'
/-- the instruction at pc, then at most f more, up to the cuts -/
theorem go {Γ : aΓ} {tb : List (Nat × aO)} (h : AllS Γ tb) (cuts : List Nat) (f : Nat) {pc : Nat} {ad : Nat → Nat} {k n : Nat} {ls : List (Nat × Value)} {st : List Value} {X : List aE} (hr : lku pc tb (run Γ tb cuts f) ad k n ls st X) : FG Γ pc ad k n ls st X :=
  lku_snd h pc _ (run_snd h cuts f) ad k n ls st X hr
/-! reading and writing the lists, the rest of the run behind it -/
def gl (i : Nat) (c : Value → Prop) : List (Nat × Value) → Prop
  | [] => False
  | q :: t => match Nat.beq q.1 i with
    | true => c q.2
    | false => gl i c t
theorem gl_spec {i : Nat} {c : Value → Prop} : ∀ {ls : List (Nat × Value)}, gl i c ls → ∃ (j : Nat) (v : Value), ls[j]? = some (i, v) ∧ c v
  | [], h => h.elim
  | q :: t, h => by
    unfold gl at h
    cases e : Nat.beq q.1 i with
    | true =>
      rw [e] at h
      have := Nat.eq_of_beq_eq_true e
      exact ⟨0, q.2, by rw [List.getElem?_cons_zero, ← this], h⟩
    | false =>
      rw [e] at h
      obtain ⟨j, v, h1, h2⟩ := gl_spec h
      exact ⟨j + 1, v, by rw [List.getElem?_cons_succ]; exact h1, h2⟩
def fl1 (i : Nat) (c : List (Nat × Value) → Prop) : List (Nat × Value) → Prop
  | [] => c []
  | q :: t => match Nat.beq q.1 i with
    | true => fl1 i c t
    | false => match Nat.beq (q.1 + 1) i with
      | true => match Nat.beq q.2.category 2 with
        | true => fl1 i c t
        | false => fl1 i (fun t' => c (q :: t')) t
      | false => fl1 i (fun t' => c (q :: t')) t
abbrev kf1 (i : Nat) : Nat × Value → Bool := fun q => !(q.1 == i) && !(q.1 + 1 == i && q.2.category == 2)
theorem beq_nat (a b : Nat) : (a == b) = Nat.beq a b := Bool.eq_iff_iff.mpr (by rw [beq_iff_eq]; exact ⟨fun h => by subst h; exact Nat.beq_refl a, Nat.eq_of_beq_eq_true⟩)
theorem fl1_spec {i : Nat} : ∀ {ls : List (Nat × Value)} {c : List (Nat × Value) → Prop}, fl1 i c ls → c (ls.filter (kf1 i))
  | [], c, h => h
  | q :: t, c, h => by
    unfold fl1 at h
    rw [List.filter_cons]
    simp only [kf1, beq_nat]
    cases e1 : Nat.beq q.1 i with
    | true =>
      rw [e1] at h
      simpa [kf1, beq_nat] using fl1_spec h
    | false =>
      rw [e1] at h
      cases e2 : Nat.beq (q.1 + 1) i with
      | true =>
        rw [e2] at h
        cases e3 : Nat.beq q.2.category 2 with
        | true =>
          rw [e3] at h
          simpa [kf1, beq_nat] using fl1_spec h
        | false =>
          rw [e3] at h
          simpa [kf1, beq_nat] using fl1_spec h
      | false =>
        rw [e2] at h
        simpa [kf1, beq_nat] using fl1_spec h
def fl2 (i : Nat) (c : List (Nat × Value) → Prop) : List (Nat × Value) → Prop
  | [] => c []
  | q :: t => match Nat.beq q.1 i with
    | true => fl2 i c t
    | false => match Nat.beq q.1 (i + 1) with
      | true => fl2 i c t
      | false => match Nat.beq (q.1 + 1) i with
        | true => match Nat.beq q.2.category 2 with
          | true => fl2 i c t
          | false => fl2 i (fun t' => c (q :: t')) t
        | false => fl2 i (fun t' => c (q :: t')) t
abbrev kf2 (i : Nat) : Nat × Value → Bool := fun q => !(q.1 == i) && (!(q.1 == i + 1) && !(q.1 + 1 == i && q.2.category == 2))
theorem fl2_spec {i : Nat} : ∀ {ls : List (Nat × Value)} {c : List (Nat × Value) → Prop}, fl2 i c ls → c (ls.filter (kf2 i))
  | [], c, h => h
  | q :: t, c, h => by
    unfold fl2 at h
    rw [List.filter_cons]
    simp only [kf2, beq_nat]
    cases e1 : Nat.beq q.1 i with
    | true =>
      rw [e1] at h
      simpa [kf2, beq_nat] using fl2_spec h
    | false =>
      rw [e1] at h
      cases e4 : Nat.beq q.1 (i + 1) with
      | true =>
        rw [e4] at h
        simpa [kf2, beq_nat] using fl2_spec h
      | false =>
        rw [e4] at h
        cases e2 : Nat.beq (q.1 + 1) i with
        | true =>
          rw [e2] at h
          cases e3 : Nat.beq q.2.category 2 with
          | true =>
            rw [e3] at h
            simpa [kf2, beq_nat] using fl2_spec h
          | false =>
            rw [e3] at h
            simpa [kf2, beq_nat] using fl2_spec h
        | false =>
          rw [e2] at h
          simpa [kf2, beq_nat] using fl2_spec h
theorem aL_f1 (ad : Nat → Nat) (i : Nat) (ls : List (Nat × Value)) : (aL ad ls).filter (kf1 i) = aL ad (ls.filter (kf1 i)) := by
  unfold aL
  rw [List.filter_map]
  congr 1
  refine List.filter_congr fun q _ => ?_
  simp [kf1, aV_cat]
theorem aL_f2 (ad : Nat → Nat) (i : Nat) (ls : List (Nat × Value)) : (aL ad ls).filter (kf2 i) = aL ad (ls.filter (kf2 i)) := by
  unfold aL
  rw [List.filter_map]
  congr 1
  refine List.filter_congr fun q _ => ?_
  simp [kf2, aV_cat]
/-- the thing at a place of a list -/
def gx {α : Type} : Nat → (α → Prop) → List α → Prop
  | _, _, [] => False
  | 0, c, e :: _ => c e
  | i + 1, c, _ :: t => gx i c t
theorem gx_spec {α : Type} : ∀ {i : Nat} {c : α → Prop} {X : List α}, gx i c X → ∃ e, X[i]? = some e ∧ c e
  | i, c, [], h => by
    cases i <;> exact h.elim
  | 0, c, e :: _, h => ⟨e, rfl, h⟩
  | i + 1, c, _ :: t, h => by
    obtain ⟨e, h1, h2⟩ := gx_spec (i := i) (c := c) (X := t) h
    exact ⟨e, by rw [List.getElem?_cons_succ]; exact h1, h2⟩
def sx {α : Type} : Nat → α → (List α → Prop) → List α → Prop
  | _, _, _, [] => False
  | 0, e, c, _ :: t => c (e :: t)
  | i + 1, e, c, h :: t => sx i e (fun t' => c (h :: t')) t
theorem sx_spec {α : Type} : ∀ {i : Nat} {e : α} {c : List α → Prop} {X : List α}, sx i e c X → i < X.length ∧ c (X.set i e)
  | i, e, c, [], h => by
    cases i <;> exact h.elim
  | 0, e, c, _ :: t, h => ⟨Nat.succ_pos _, h⟩
  | i + 1, e, c, a :: t, h => by
    obtain ⟨h1, h2⟩ := sx_spec (i := i) (e := e) (X := t) h
    exact ⟨Nat.succ_lt_succ h1, h2⟩
end
section
/-! what is on the stack -/
def pV (c : Value → List Value → Prop) : List Value → Prop
  | [] => False
  | v :: t => c v t
theorem pV_spec {c : Value → List Value → Prop} : ∀ {st : List Value}, pV c st → ∃ v t, st = v :: t ∧ c v t
  | [], h => h.elim
  | v :: t, h => ⟨v, t, rfl, h⟩
def vI (c : Int32 → Prop) : Value → Prop
  | .int x => c x
  | _ => False
theorem vI_spec {c : Int32 → Prop} : ∀ {v : Value}, vI c v → ∃ x, v = .int x ∧ c x
  | .int x, h => ⟨x, rfl, h⟩
  | .long _, h => h.elim
  | .float _, h => h.elim
  | .double _, h => h.elim
  | .null, h => h.elim
  | .ref _, h => h.elim
  | .retAddr _, h => h.elim
def vR (c : Nat → Prop) : Value → Prop
  | .ref x => c x
  | _ => False
theorem vR_spec {c : Nat → Prop} : ∀ {v : Value}, vR c v → ∃ x, v = .ref x ∧ c x
  | .ref x, h => ⟨x, rfl, h⟩
  | .long _, h => h.elim
  | .float _, h => h.elim
  | .double _, h => h.elim
  | .null, h => h.elim
  | .int _, h => h.elim
  | .retAddr _, h => h.elim
def vL (c : Int64 → Prop) : Value → Prop
  | .long x => c x
  | _ => False
theorem vL_spec {c : Int64 → Prop} : ∀ {v : Value}, vL c v → ∃ x, v = .long x ∧ c x
  | .long x, h => ⟨x, rfl, h⟩
  | .int _, h => h.elim
  | .float _, h => h.elim
  | .double _, h => h.elim
  | .null, h => h.elim
  | .ref _, h => h.elim
  | .retAddr _, h => h.elim
def vD (c : UInt64 → Prop) : Value → Prop
  | .double x => c x
  | _ => False
theorem vD_spec {c : UInt64 → Prop} : ∀ {v : Value}, vD c v → ∃ x, v = .double x ∧ c x
  | .double x, h => ⟨x, rfl, h⟩
  | .int _, h => h.elim
  | .float _, h => h.elim
  | .long _, h => h.elim
  | .null, h => h.elim
  | .ref _, h => h.elim
  | .retAddr _, h => h.elim
abbrev pI (c : Int32 → List Value → Prop) : List Value → Prop := pV fun v t => vI (fun x => c x t) v
abbrev pR (c : Nat → List Value → Prop) : List Value → Prop := pV fun v t => vR (fun x => c x t) v
abbrev pL (c : Int64 → List Value → Prop) : List Value → Prop := pV fun v t => vL (fun x => c x t) v
abbrev pD (c : UInt64 → List Value → Prop) : List Value → Prop := pV fun v t => vD (fun x => c x t) v
theorem pI_spec {c : Int32 → List Value → Prop} {st : List Value} (h : pI c st) : ∃ x t, st = .int x :: t ∧ c x t := by
  obtain ⟨v, t, rfl, h⟩ := pV_spec h
  obtain ⟨x, rfl, h⟩ := vI_spec h
  exact ⟨x, t, rfl, h⟩
theorem pR_spec {c : Nat → List Value → Prop} {st : List Value} (h : pR c st) : ∃ x t, st = .ref x :: t ∧ c x t := by
  obtain ⟨v, t, rfl, h⟩ := pV_spec h
  obtain ⟨x, rfl, h⟩ := vR_spec h
  exact ⟨x, t, rfl, h⟩
theorem pL_spec {c : Int64 → List Value → Prop} {st : List Value} (h : pL c st) : ∃ x t, st = .long x :: t ∧ c x t := by
  obtain ⟨v, t, rfl, h⟩ := pV_spec h
  obtain ⟨x, rfl, h⟩ := vL_spec h
  exact ⟨x, t, rfl, h⟩
theorem pD_spec {c : UInt64 → List Value → Prop} {st : List Value} (h : pD c st) : ∃ x t, st = .double x :: t ∧ c x t := by
  obtain ⟨v, t, rfl, h⟩ := pV_spec h
  obtain ⟨x, rfl, h⟩ := vD_spec h
  exact ⟨x, t, rfl, h⟩
/-! cells of the world -/
def eO (ci : Nat) (c : List Value → Prop) : aE → Prop
  | .inr (.inl o) => match Nat.beq o.1 ci with
    | true => c o.2
    | false => False
  | _ => False
theorem eO_spec {ci : Nat} {c : List Value → Prop} : ∀ {e : aE}, eO ci c e → ∃ fs, e = .inr (.inl (ci, fs)) ∧ c fs
  | .inr (.inl (a, fs)), h => by
    unfold eO at h
    cases e : Nat.beq a ci with
    | true =>
      simp only [e] at h
      have := Nat.eq_of_beq_eq_true e
      subst this
      exact ⟨fs, rfl, h⟩
    | false =>
      simp only [e] at h
  | .inl _, h => h.elim
  | .inr (.inr _), h => h.elim
def eI (c : Nat → (Nat → Int32) → Prop) : aE → Prop
  | .inl (false, n, f) => c n f
  | _ => False
theorem eI_spec {c : Nat → (Nat → Int32) → Prop} : ∀ {e : aE}, eI c e → ∃ n f, e = .inl (false, n, f) ∧ c n f
  | .inl (false, n, f), h => ⟨n, f, rfl, h⟩
  | .inl (true, n, f), h => h.elim
  | .inr _, h => h.elim
def eZ (c : Nat → (Nat → Int32) → Prop) : aE → Prop
  | .inl (true, n, f) => c n f
  | _ => False
theorem eZ_spec {c : Nat → (Nat → Int32) → Prop} : ∀ {e : aE}, eZ c e → ∃ n f, e = .inl (true, n, f) ∧ c n f
  | .inl (true, n, f), h => ⟨n, f, rfl, h⟩
  | .inl (false, n, f), h => h.elim
  | .inr _, h => h.elim
def eJ (c : Nat → (Nat → Int64) → Prop) : aE → Prop
  | .inr (.inr q) => c q.1 q.2
  | _ => False
theorem eJ_spec {c : Nat → (Nat → Int64) → Prop} : ∀ {e : aE}, eJ c e → ∃ n f, e = .inr (.inr (n, f)) ∧ c n f
  | .inr (.inr (n, f)), h => ⟨n, f, rfl, h⟩
  | .inl _, h => h.elim
  | .inr (.inl _), h => h.elim
def eLen (c : Nat → Prop) : aE → Prop
  | .inl q => c q.2.1
  | .inr (.inr q) => c q.1
  | _ => False
def ck (b : Bool) (c : Prop) : Prop := match b with
  | true => c
  | false => False
theorem ck_spec {b : Bool} {c : Prop} (h : ck b c) : b = true ∧ c := by
  cases b
  · exact h.elim
  · exact ⟨rfl, h⟩
/-! the instructions -/
section OPS
variable {Γ : aΓ} {cc : ByteArray} {Ts : List Cond} {own : String} {nL : Nat} {rm : Room} {pc : Nat}
def oC (v : Int32) (nx : Nat) : aO := fun K ad k n ls st X => K nx ad k n ls (.int v :: st) X
theorem snd_iconst (C : FOK Γ cc Ts own nL rm) {z : Int} {v : Int32} (d : decode cc pc = .ok (.iconst z, 1)) (hv : Int32.ofInt z = v) : Snd Γ pc (oC v (pc + 1)) := by
  obtain ⟨p, l, e, R, s, m, args, below, meth, c, Q, G, A, nL'⟩ := Γ
  obtain ⟨hx, hb, hml, hown, hts, hK, hA, rfl, rfl, hB⟩ := C
  intro K hK' ad k n ls st X ho
  dsimp only [oC] at ho
  intro H locs la hP hD hS hl
  exact lv_iconst hx hb d hv (hK' _ _ _ _ _ _ _ ho H locs la hP hD hS hl)
theorem snd_bipush (C : FOK Γ cc Ts own nL rm) {z : Int} {v : Int32} (d : decode cc pc = .ok (.bipush z, 2)) (hv : (Int8.ofInt z).toInt32 = v) : Snd Γ pc (oC v (pc + 2)) := by
  obtain ⟨p, l, e, R, s, m, args, below, meth, c, Q, G, A, nL'⟩ := Γ
  obtain ⟨hx, hb, hml, hown, hts, hK, hA, rfl, rfl, hB⟩ := C
  intro K hK' ad k n ls st X ho
  dsimp only [oC] at ho
  intro H locs la hP hD hS hl
  exact lv_bipush hx hb d hv (hK' _ _ _ _ _ _ _ ho H locs la hP hD hS hl)
theorem snd_sipush (C : FOK Γ cc Ts own nL rm) {z : Int} {v : Int32} (d : decode cc pc = .ok (.sipush z, 3)) (hv : (Int16.ofInt z).toInt32 = v) : Snd Γ pc (oC v (pc + 3)) := by
  obtain ⟨p, l, e, R, s, m, args, below, meth, c, Q, G, A, nL'⟩ := Γ
  obtain ⟨hx, hb, hml, hown, hts, hK, hA, rfl, rfl, hB⟩ := C
  intro K hK' ad k n ls st X ho
  dsimp only [oC] at ho
  intro H locs la hP hD hS hl
  exact lv_sipush hx hb d hv (hK' _ _ _ _ _ _ _ ho H locs la hP hD hS hl)
def oCL (v : Int64) (nx : Nat) : aO := fun K ad k n ls st X => K nx ad k n ls (.long v :: st) X
theorem snd_lconst (C : FOK Γ cc Ts own nL rm) {z : Fin 2} {v : Int64} (d : decode cc pc = .ok (.lconst z, 1)) (hv : Int64.ofNat (z : Nat) = v) : Snd Γ pc (oCL v (pc + 1)) := by
  obtain ⟨p, l, e, R, s, m, args, below, meth, c, Q, G, A, nL'⟩ := Γ
  obtain ⟨hx, hb, hml, hown, hts, hK, hA, rfl, rfl, hB⟩ := C
  intro K hK' ad k n ls st X ho
  dsimp only [oCL] at ho
  intro H locs la hP hD hS hl
  exact lv_lconst hx hb d hv (hK' _ _ _ _ _ _ _ ho H locs la hP hD hS hl)
theorem snd_ldc2 (C : FOK Γ cc Ts own nL rm) {index : Nat} {v : Int64} (d : decode cc pc = .ok (.ldc2_w index, 3)) (hv : Cond.constantLong own index v ∈ Ts) : Snd Γ pc (oCL v (pc + 3)) := by
  obtain ⟨p, l, e, R, s, m, args, below, meth, c, Q, G, A, nL'⟩ := Γ
  obtain ⟨hx, hb, hml, hown, hts, hK, hA, rfl, rfl, hB⟩ := C
  intro K hK' ad k n ls st X ho
  dsimp only [oCL] at ho
  intro H locs la hP hD hS hl
  exact lv_ldc2 hx hb hown (hts _ hv) d (hK' _ _ _ _ _ _ _ ho H locs la hP hD hS hl)
def oCD (v : UInt64) (nx : Nat) : aO := fun K ad k n ls st X => K nx ad k n ls (.double v :: st) X
theorem snd_ldc2d (C : FOK Γ cc Ts own nL rm) {index : Nat} {v : UInt64} (d : decode cc pc = .ok (.ldc2_w index, 3)) (hv : Cond.constantDouble own index v ∈ Ts) : Snd Γ pc (oCD v (pc + 3)) := by
  obtain ⟨p, l, e, R, s, m, args, below, meth, c, Q, G, A, nL'⟩ := Γ
  obtain ⟨hx, hb, hml, hown, hts, hK, hA, rfl, rfl, hB⟩ := C
  intro K hK' ad k n ls st X ho
  dsimp only [oCD] at ho
  intro H locs la hP hD hS hl
  exact lv_ldc2d hx hb hown (hts _ hv) d (hK' _ _ _ _ _ _ _ ho H locs la hP hD hS hl)
def oIL (i nx : Nat) : aO := fun K ad k n ls st X => gl i (vI fun x => K nx ad k n ls (.int x :: st) X) ls
theorem snd_iload_n (C : FOK Γ cc Ts own nL rm) {i : Nat} {j : Fin 4} (d : decode cc pc = .ok (.iload_n j, 1)) (hi : (j : Nat) = i) : Snd Γ pc (oIL i (pc + 1)) := by
  obtain ⟨p, l, e, R, s, m, args, below, meth, c, Q, G, A, nL'⟩ := Γ
  obtain ⟨hx, hb, hml, hown, hts, hK, hA, rfl, rfl, hB⟩ := C
  intro K hK' ad k n ls st X ho
  dsimp only [oIL] at ho
  obtain ⟨q, v, h1, h2⟩ := gl_spec ho
  obtain ⟨x, rfl, h2⟩ := vI_spec h2
  intro H locs la hP hD hS hl
  exact lv_iload_n hx hb d hi (lv_at hl q (aL_get ad h1)) (hK' _ _ _ _ _ _ _ h2 H locs la hP hD hS hl)
theorem snd_iload (C : FOK Γ cc Ts own nL rm) {i : Nat} (d : decode cc pc = .ok (.iload i, 2)) : Snd Γ pc (oIL i (pc + 2)) := by
  obtain ⟨p, l, e, R, s, m, args, below, meth, c, Q, G, A, nL'⟩ := Γ
  obtain ⟨hx, hb, hml, hown, hts, hK, hA, rfl, rfl, hB⟩ := C
  intro K hK' ad k n ls st X ho
  dsimp only [oIL] at ho
  obtain ⟨q, v, h1, h2⟩ := gl_spec ho
  obtain ⟨x, rfl, h2⟩ := vI_spec h2
  intro H locs la hP hD hS hl
  exact lv_iload hx hb d (lv_at hl q (aL_get ad h1)) (hK' _ _ _ _ _ _ _ h2 H locs la hP hD hS hl)
def oAL (i nx : Nat) : aO := fun K ad k n ls st X => gl i (vR fun x => K nx ad k n ls (.ref x :: st) X) ls
theorem snd_aload_n (C : FOK Γ cc Ts own nL rm) {i : Nat} {j : Fin 4} (d : decode cc pc = .ok (.aload_n j, 1)) (hi : (j : Nat) = i) : Snd Γ pc (oAL i (pc + 1)) := by
  obtain ⟨p, l, e, R, s, m, args, below, meth, c, Q, G, A, nL'⟩ := Γ
  obtain ⟨hx, hb, hml, hown, hts, hK, hA, rfl, rfl, hB⟩ := C
  intro K hK' ad k n ls st X ho
  dsimp only [oAL] at ho
  obtain ⟨q, v, h1, h2⟩ := gl_spec ho
  obtain ⟨x, rfl, h2⟩ := vR_spec h2
  intro H locs la hP hD hS hl
  exact lv_aload_n hx hb d hi (lv_at hl q (aL_get ad h1)) (hK' _ _ _ _ _ _ _ h2 H locs la hP hD hS hl)
theorem snd_aload (C : FOK Γ cc Ts own nL rm) {i : Nat} (d : decode cc pc = .ok (.aload i, 2)) : Snd Γ pc (oAL i (pc + 2)) := by
  obtain ⟨p, l, e, R, s, m, args, below, meth, c, Q, G, A, nL'⟩ := Γ
  obtain ⟨hx, hb, hml, hown, hts, hK, hA, rfl, rfl, hB⟩ := C
  intro K hK' ad k n ls st X ho
  dsimp only [oAL] at ho
  obtain ⟨q, v, h1, h2⟩ := gl_spec ho
  obtain ⟨x, rfl, h2⟩ := vR_spec h2
  intro H locs la hP hD hS hl
  exact lv_aload hx hb d (lv_at hl q (aL_get ad h1)) (hK' _ _ _ _ _ _ _ h2 H locs la hP hD hS hl)
def oLL (i nx : Nat) : aO := fun K ad k n ls st X => gl i (vL fun x => K nx ad k n ls (.long x :: st) X) ls
theorem snd_lload_n (C : FOK Γ cc Ts own nL rm) {i : Nat} {j : Fin 4} (d : decode cc pc = .ok (.lload_n j, 1)) (hi : (j : Nat) = i) : Snd Γ pc (oLL i (pc + 1)) := by
  obtain ⟨p, l, e, R, s, m, args, below, meth, c, Q, G, A, nL'⟩ := Γ
  obtain ⟨hx, hb, hml, hown, hts, hK, hA, rfl, rfl, hB⟩ := C
  intro K hK' ad k n ls st X ho
  dsimp only [oLL] at ho
  obtain ⟨q, v, h1, h2⟩ := gl_spec ho
  obtain ⟨x, rfl, h2⟩ := vL_spec h2
  intro H locs la hP hD hS hl
  exact lv_lload_n hx hb d hi (lv_at hl q (aL_get ad h1)) (hK' _ _ _ _ _ _ _ h2 H locs la hP hD hS hl)
theorem snd_lload (C : FOK Γ cc Ts own nL rm) {i : Nat} (d : decode cc pc = .ok (.lload i, 2)) : Snd Γ pc (oLL i (pc + 2)) := by
  obtain ⟨p, l, e, R, s, m, args, below, meth, c, Q, G, A, nL'⟩ := Γ
  obtain ⟨hx, hb, hml, hown, hts, hK, hA, rfl, rfl, hB⟩ := C
  intro K hK' ad k n ls st X ho
  dsimp only [oLL] at ho
  obtain ⟨q, v, h1, h2⟩ := gl_spec ho
  obtain ⟨x, rfl, h2⟩ := vL_spec h2
  intro H locs la hP hD hS hl
  exact lv_lload hx hb d (lv_at hl q (aL_get ad h1)) (hK' _ _ _ _ _ _ _ h2 H locs la hP hD hS hl)
def oDL (i nx : Nat) : aO := fun K ad k n ls st X => gl i (vD fun x => K nx ad k n ls (.double x :: st) X) ls
theorem snd_dload_n (C : FOK Γ cc Ts own nL rm) {i : Nat} {j : Fin 4} (d : decode cc pc = .ok (.dload_n j, 1)) (hi : (j : Nat) = i) : Snd Γ pc (oDL i (pc + 1)) := by
  obtain ⟨p, l, e, R, s, m, args, below, meth, c, Q, G, A, nL'⟩ := Γ
  obtain ⟨hx, hb, hml, hown, hts, hK, hA, rfl, rfl, hB⟩ := C
  intro K hK' ad k n ls st X ho
  dsimp only [oDL] at ho
  obtain ⟨q, v, h1, h2⟩ := gl_spec ho
  obtain ⟨x, rfl, h2⟩ := vD_spec h2
  intro H locs la hP hD hS hl
  exact lv_dload_n hx hb d hi (lv_at hl q (aL_get ad h1)) (hK' _ _ _ _ _ _ _ h2 H locs la hP hD hS hl)
theorem snd_dload (C : FOK Γ cc Ts own nL rm) {i : Nat} (d : decode cc pc = .ok (.dload i, 2)) : Snd Γ pc (oDL i (pc + 2)) := by
  obtain ⟨p, l, e, R, s, m, args, below, meth, c, Q, G, A, nL'⟩ := Γ
  obtain ⟨hx, hb, hml, hown, hts, hK, hA, rfl, rfl, hB⟩ := C
  intro K hK' ad k n ls st X ho
  dsimp only [oDL] at ho
  obtain ⟨q, v, h1, h2⟩ := gl_spec ho
  obtain ⟨x, rfl, h2⟩ := vD_spec h2
  intro H locs la hP hD hS hl
  exact lv_dload hx hb d (lv_at hl q (aL_get ad h1)) (hK' _ _ _ _ _ _ _ h2 H locs la hP hD hS hl)
def oIS (i nx : Nat) : aO := fun K ad k n ls st X => pI (fun x t => fl1 i (fun ls2 => K nx ad k n ((i, .int x) :: ls2) t X) ls) st
theorem snd_istore_n (C : FOK Γ cc Ts own nL rm) {i : Nat} {j : Fin 4} (d : decode cc pc = .ok (.istore_n j, 1)) (hi : (j : Nat) = i) (hn : i < nL) : Snd Γ pc (oIS i (pc + 1)) := by
  obtain ⟨p, l, e, R, s, m, args, below, meth, c, Q, G, A, nL'⟩ := Γ
  obtain ⟨hx, hb, hml, hown, hts, hK, hA, rfl, rfl, hB⟩ := C
  intro K hK' ad k n ls st X ho
  dsimp only [oIS] at ho
  obtain ⟨x, t, rfl, h⟩ := pI_spec ho
  have h := fl1_spec h
  intro H locs la hP hD hS hl
  refine lv_istore_n (lv' := aL ad ((i, .int x) :: ls.filter (kf1 i))) hx hb d hi hl hn ?_ (fun la' hl' => hK' _ _ _ _ _ _ _ h H locs la' hP hD hS hl')
  show (i, Value.int x) :: (aL ad ls).filter (kf1 i) = _
  rw [aL_f1]
  rfl
theorem snd_istore (C : FOK Γ cc Ts own nL rm) {i : Nat} (d : decode cc pc = .ok (.istore i, 2)) (hn : i < nL) : Snd Γ pc (oIS i (pc + 2)) := by
  obtain ⟨p, l, e, R, s, m, args, below, meth, c, Q, G, A, nL'⟩ := Γ
  obtain ⟨hx, hb, hml, hown, hts, hK, hA, rfl, rfl, hB⟩ := C
  intro K hK' ad k n ls st X ho
  dsimp only [oIS] at ho
  obtain ⟨x, t, rfl, h⟩ := pI_spec ho
  have h := fl1_spec h
  intro H locs la hP hD hS hl
  refine lv_istore (lv' := aL ad ((i, .int x) :: ls.filter (kf1 i))) hx hb d hl hn ?_ (fun la' hl' => hK' _ _ _ _ _ _ _ h H locs la' hP hD hS hl')
  show (i, Value.int x) :: (aL ad ls).filter (kf1 i) = _
  rw [aL_f1]
  rfl
def oAS (i nx : Nat) : aO := fun K ad k n ls st X => pR (fun x t => fl1 i (fun ls2 => K nx ad k n ((i, .ref x) :: ls2) t X) ls) st
theorem snd_astore_n (C : FOK Γ cc Ts own nL rm) {i : Nat} {j : Fin 4} (d : decode cc pc = .ok (.astore_n j, 1)) (hi : (j : Nat) = i) (hn : i < nL) : Snd Γ pc (oAS i (pc + 1)) := by
  obtain ⟨p, l, e, R, s, m, args, below, meth, c, Q, G, A, nL'⟩ := Γ
  obtain ⟨hx, hb, hml, hown, hts, hK, hA, rfl, rfl, hB⟩ := C
  intro K hK' ad k n ls st X ho
  dsimp only [oAS] at ho
  obtain ⟨x, t, rfl, h⟩ := pR_spec ho
  have h := fl1_spec h
  intro H locs la hP hD hS hl
  refine lv_astore_n (lv' := aL ad ((i, .ref x) :: ls.filter (kf1 i))) hx hb d hi hl hn ?_ (fun la' hl' => hK' _ _ _ _ _ _ _ h H locs la' hP hD hS hl')
  show (i, Value.ref (ad x)) :: (aL ad ls).filter (kf1 i) = _
  rw [aL_f1]
  rfl
theorem snd_astore (C : FOK Γ cc Ts own nL rm) {i : Nat} (d : decode cc pc = .ok (.astore i, 2)) (hn : i < nL) : Snd Γ pc (oAS i (pc + 2)) := by
  obtain ⟨p, l, e, R, s, m, args, below, meth, c, Q, G, A, nL'⟩ := Γ
  obtain ⟨hx, hb, hml, hown, hts, hK, hA, rfl, rfl, hB⟩ := C
  intro K hK' ad k n ls st X ho
  dsimp only [oAS] at ho
  obtain ⟨x, t, rfl, h⟩ := pR_spec ho
  have h := fl1_spec h
  intro H locs la hP hD hS hl
  refine lv_astore (lv' := aL ad ((i, .ref x) :: ls.filter (kf1 i))) hx hb d hl hn ?_ (fun la' hl' => hK' _ _ _ _ _ _ _ h H locs la' hP hD hS hl')
  show (i, Value.ref (ad x)) :: (aL ad ls).filter (kf1 i) = _
  rw [aL_f1]
  rfl
def oLS (i nx : Nat) : aO := fun K ad k n ls st X => pL (fun x t => fl2 i (fun ls2 => K nx ad k n ((i, .long x) :: ls2) t X) ls) st
theorem snd_lstore_n (C : FOK Γ cc Ts own nL rm) {i : Nat} {j : Fin 4} (d : decode cc pc = .ok (.lstore_n j, 1)) (hi : (j : Nat) = i) (hn : i + 1 < nL) : Snd Γ pc (oLS i (pc + 1)) := by
  obtain ⟨p, l, e, R, s, m, args, below, meth, c, Q, G, A, nL'⟩ := Γ
  obtain ⟨hx, hb, hml, hown, hts, hK, hA, rfl, rfl, hB⟩ := C
  intro K hK' ad k n ls st X ho
  dsimp only [oLS] at ho
  obtain ⟨x, t, rfl, h⟩ := pL_spec ho
  have h := fl2_spec h
  intro H locs la hP hD hS hl
  refine lv_lstore_n (lv' := aL ad ((i, .long x) :: ls.filter (kf2 i))) hx hb d hi hl hn ?_ (fun la' hl' => hK' _ _ _ _ _ _ _ h H locs la' hP hD hS hl')
  show (i, Value.long x) :: (aL ad ls).filter (kf2 i) = _
  rw [aL_f2]
  rfl
theorem snd_lstore (C : FOK Γ cc Ts own nL rm) {i : Nat} (d : decode cc pc = .ok (.lstore i, 2)) (hn : i + 1 < nL) : Snd Γ pc (oLS i (pc + 2)) := by
  obtain ⟨p, l, e, R, s, m, args, below, meth, c, Q, G, A, nL'⟩ := Γ
  obtain ⟨hx, hb, hml, hown, hts, hK, hA, rfl, rfl, hB⟩ := C
  intro K hK' ad k n ls st X ho
  dsimp only [oLS] at ho
  obtain ⟨x, t, rfl, h⟩ := pL_spec ho
  have h := fl2_spec h
  intro H locs la hP hD hS hl
  refine lv_lstore (lv' := aL ad ((i, .long x) :: ls.filter (kf2 i))) hx hb d hl hn ?_ (fun la' hl' => hK' _ _ _ _ _ _ _ h H locs la' hP hD hS hl')
  show (i, Value.long x) :: (aL ad ls).filter (kf2 i) = _
  rw [aL_f2]
  rfl
def oDS (i nx : Nat) : aO := fun K ad k n ls st X => pD (fun x t => fl2 i (fun ls2 => K nx ad k n ((i, .double x) :: ls2) t X) ls) st
theorem snd_dstore_n (C : FOK Γ cc Ts own nL rm) {i : Nat} {j : Fin 4} (d : decode cc pc = .ok (.dstore_n j, 1)) (hi : (j : Nat) = i) (hn : i + 1 < nL) : Snd Γ pc (oDS i (pc + 1)) := by
  obtain ⟨p, l, e, R, s, m, args, below, meth, c, Q, G, A, nL'⟩ := Γ
  obtain ⟨hx, hb, hml, hown, hts, hK, hA, rfl, rfl, hB⟩ := C
  intro K hK' ad k n ls st X ho
  dsimp only [oDS] at ho
  obtain ⟨x, t, rfl, h⟩ := pD_spec ho
  have h := fl2_spec h
  intro H locs la hP hD hS hl
  refine lv_dstore_n (lv' := aL ad ((i, .double x) :: ls.filter (kf2 i))) hx hb d hi hl hn ?_ (fun la' hl' => hK' _ _ _ _ _ _ _ h H locs la' hP hD hS hl')
  show (i, Value.double x) :: (aL ad ls).filter (kf2 i) = _
  rw [aL_f2]
  rfl
theorem snd_dstore (C : FOK Γ cc Ts own nL rm) {i : Nat} (d : decode cc pc = .ok (.dstore i, 2)) (hn : i + 1 < nL) : Snd Γ pc (oDS i (pc + 2)) := by
  obtain ⟨p, l, e, R, s, m, args, below, meth, c, Q, G, A, nL'⟩ := Γ
  obtain ⟨hx, hb, hml, hown, hts, hK, hA, rfl, rfl, hB⟩ := C
  intro K hK' ad k n ls st X ho
  dsimp only [oDS] at ho
  obtain ⟨x, t, rfl, h⟩ := pD_spec ho
  have h := fl2_spec h
  intro H locs la hP hD hS hl
  refine lv_dstore (lv' := aL ad ((i, .double x) :: ls.filter (kf2 i))) hx hb d hl hn ?_ (fun la' hl' => hK' _ _ _ _ _ _ _ h H locs la' hP hD hS hl')
  show (i, Value.double x) :: (aL ad ls).filter (kf2 i) = _
  rw [aL_f2]
  rfl
def oInc (i : Nat) (z : Int32) (nx : Nat) : aO := fun K ad k n ls st X => gl i (vI fun x => fl1 i (fun ls2 => K nx ad k n ((i, .int (x + z)) :: ls2) st X) ls) ls
theorem snd_iinc (C : FOK Γ cc Ts own nL rm) {i : Nat} {z : Int} {w : Int32} (d : decode cc pc = .ok (.iinc i z, 3)) (hw : Int32.ofInt z = w) (hn : i < nL) : Snd Γ pc (oInc i w (pc + 3)) := by
  obtain ⟨p, l, e, R, s, m, args, below, meth, c, Q, G, A, nL'⟩ := Γ
  obtain ⟨hx, hb, hml, hown, hts, hK, hA, rfl, rfl, hB⟩ := C
  intro K hK' ad k n ls st X ho
  dsimp only [oInc] at ho
  subst hw
  obtain ⟨q, v, h1, h2⟩ := gl_spec ho
  obtain ⟨x, rfl, h2⟩ := vI_spec h2
  have h := fl1_spec h2
  intro H locs la hP hD hS hl
  refine lv_iinc (v := x + Int32.ofInt z) (lv' := aL ad ((i, .int (x + Int32.ofInt z)) :: ls.filter (kf1 i))) hx hb d hl (aL_get ad h1) rfl hn ?_ (fun la' hl' => hK' _ _ _ _ _ _ _ h H locs la' hP hD hS hl')
  show (i, Value.int (x + Int32.ofInt z)) :: (aL ad ls).filter (kf1 i) = _
  rw [aL_f1]
  rfl
def oIadd (nx : Nat) : aO := fun K ad k n ls st X => pI (fun b t => pI (fun a t2 => K nx ad k n ls (.int (a + b) :: t2) X) t) st
theorem snd_iadd (C : FOK Γ cc Ts own nL rm) (d : decode cc pc = .ok (.iadd, 1)) : Snd Γ pc (oIadd (pc + 1)) := by
  obtain ⟨p, l, e, R, s, m, args, below, meth, c, Q, G, A, nL'⟩ := Γ
  obtain ⟨hx, hb, hml, hown, hts, hK, hA, rfl, rfl, hB⟩ := C
  intro K hK' ad k n ls st X ho
  dsimp only [oIadd] at ho
  obtain ⟨b, t, rfl, h⟩ := pI_spec ho
  obtain ⟨a, t2, rfl, h⟩ := pI_spec h
  intro H locs la hP hD hS hl
  exact lv_iadd hx hb d (hK' _ _ _ _ _ _ _ h H locs la hP hD hS hl)
def oIsub (nx : Nat) : aO := fun K ad k n ls st X => pI (fun b t => pI (fun a t2 => K nx ad k n ls (.int (a - b) :: t2) X) t) st
theorem snd_isub (C : FOK Γ cc Ts own nL rm) (d : decode cc pc = .ok (.isub, 1)) : Snd Γ pc (oIsub (pc + 1)) := by
  obtain ⟨p, l, e, R, s, m, args, below, meth, c, Q, G, A, nL'⟩ := Γ
  obtain ⟨hx, hb, hml, hown, hts, hK, hA, rfl, rfl, hB⟩ := C
  intro K hK' ad k n ls st X ho
  dsimp only [oIsub] at ho
  obtain ⟨b, t, rfl, h⟩ := pI_spec ho
  obtain ⟨a, t2, rfl, h⟩ := pI_spec h
  intro H locs la hP hD hS hl
  exact lv_isub hx hb d (hK' _ _ _ _ _ _ _ h H locs la hP hD hS hl)
def oImul (nx : Nat) : aO := fun K ad k n ls st X => pI (fun b t => pI (fun a t2 => K nx ad k n ls (.int (a * b) :: t2) X) t) st
theorem snd_imul (C : FOK Γ cc Ts own nL rm) (d : decode cc pc = .ok (.imul, 1)) : Snd Γ pc (oImul (pc + 1)) := by
  obtain ⟨p, l, e, R, s, m, args, below, meth, c, Q, G, A, nL'⟩ := Γ
  obtain ⟨hx, hb, hml, hown, hts, hK, hA, rfl, rfl, hB⟩ := C
  intro K hK' ad k n ls st X ho
  dsimp only [oImul] at ho
  obtain ⟨b, t, rfl, h⟩ := pI_spec ho
  obtain ⟨a, t2, rfl, h⟩ := pI_spec h
  intro H locs la hP hD hS hl
  exact lv_imul hx hb d (hK' _ _ _ _ _ _ _ h H locs la hP hD hS hl)
def oIand (nx : Nat) : aO := fun K ad k n ls st X => pI (fun b t => pI (fun a t2 => K nx ad k n ls (.int (a &&& b) :: t2) X) t) st
theorem snd_iand (C : FOK Γ cc Ts own nL rm) (d : decode cc pc = .ok (.iand, 1)) : Snd Γ pc (oIand (pc + 1)) := by
  obtain ⟨p, l, e, R, s, m, args, below, meth, c, Q, G, A, nL'⟩ := Γ
  obtain ⟨hx, hb, hml, hown, hts, hK, hA, rfl, rfl, hB⟩ := C
  intro K hK' ad k n ls st X ho
  dsimp only [oIand] at ho
  obtain ⟨b, t, rfl, h⟩ := pI_spec ho
  obtain ⟨a, t2, rfl, h⟩ := pI_spec h
  intro H locs la hP hD hS hl
  exact lv_iand hx hb d (hK' _ _ _ _ _ _ _ h H locs la hP hD hS hl)
def oIdiv (nx : Nat) : aO := fun K ad k n ls st X => pI (fun b t => pI (fun a t2 => ¬ b = 0 ∧ K nx ad k n ls (.int (a / b) :: t2) X) t) st
theorem snd_idiv (C : FOK Γ cc Ts own nL rm) (d : decode cc pc = .ok (.idiv, 1)) : Snd Γ pc (oIdiv (pc + 1)) := by
  obtain ⟨p, l, e, R, s, m, args, below, meth, c, Q, G, A, nL'⟩ := Γ
  obtain ⟨hx, hb, hml, hown, hts, hK, hA, rfl, rfl, hB⟩ := C
  intro K hK' ad k n ls st X ho
  dsimp only [oIdiv] at ho
  obtain ⟨b, t, rfl, h⟩ := pI_spec ho
  obtain ⟨a, t2, rfl, hne, h⟩ := pI_spec h
  intro H locs la hP hD hS hl
  exact lv_idiv hx hb d hne (hK' _ _ _ _ _ _ _ h H locs la hP hD hS hl)
def oIrem (nx : Nat) : aO := fun K ad k n ls st X => pI (fun b t => pI (fun a t2 => ¬ b = 0 ∧ K nx ad k n ls (.int (a - a / b * b) :: t2) X) t) st
theorem snd_irem (C : FOK Γ cc Ts own nL rm) (d : decode cc pc = .ok (.irem, 1)) : Snd Γ pc (oIrem (pc + 1)) := by
  obtain ⟨p, l, e, R, s, m, args, below, meth, c, Q, G, A, nL'⟩ := Γ
  obtain ⟨hx, hb, hml, hown, hts, hK, hA, rfl, rfl, hB⟩ := C
  intro K hK' ad k n ls st X ho
  dsimp only [oIrem] at ho
  obtain ⟨b, t, rfl, h⟩ := pI_spec ho
  obtain ⟨a, t2, rfl, hne, h⟩ := pI_spec h
  intro H locs la hP hD hS hl
  exact lv_irem hx hb d hne (hK' _ _ _ _ _ _ _ h H locs la hP hD hS hl)
def oIneg (nx : Nat) : aO := fun K ad k n ls st X => pI (fun b t => K nx ad k n ls (.int (-b) :: t) X) st
theorem snd_ineg (C : FOK Γ cc Ts own nL rm) (d : decode cc pc = .ok (.ineg, 1)) : Snd Γ pc (oIneg (pc + 1)) := by
  obtain ⟨p, l, e, R, s, m, args, below, meth, c, Q, G, A, nL'⟩ := Γ
  obtain ⟨hx, hb, hml, hown, hts, hK, hA, rfl, rfl, hB⟩ := C
  intro K hK' ad k n ls st X ho
  dsimp only [oIneg] at ho
  obtain ⟨b, t, rfl, h⟩ := pI_spec ho
  intro H locs la hP hD hS hl
  exact lv_ineg hx hb d (hK' _ _ _ _ _ _ _ h H locs la hP hD hS hl)
def oI2l (nx : Nat) : aO := fun K ad k n ls st X => pI (fun b t => K nx ad k n ls (.long b.toInt64 :: t) X) st
theorem snd_i2l (C : FOK Γ cc Ts own nL rm) (d : decode cc pc = .ok (.i2l, 1)) : Snd Γ pc (oI2l (pc + 1)) := by
  obtain ⟨p, l, e, R, s, m, args, below, meth, c, Q, G, A, nL'⟩ := Γ
  obtain ⟨hx, hb, hml, hown, hts, hK, hA, rfl, rfl, hB⟩ := C
  intro K hK' ad k n ls st X ho
  dsimp only [oI2l] at ho
  obtain ⟨b, t, rfl, h⟩ := pI_spec ho
  intro H locs la hP hD hS hl
  exact lv_i2l hx hb d rfl (hK' _ _ _ _ _ _ _ h H locs la hP hD hS hl)
def oLadd (nx : Nat) : aO := fun K ad k n ls st X => pL (fun b t => pL (fun a t2 => K nx ad k n ls (.long (a + b) :: t2) X) t) st
theorem snd_ladd (C : FOK Γ cc Ts own nL rm) (d : decode cc pc = .ok (.ladd, 1)) : Snd Γ pc (oLadd (pc + 1)) := by
  obtain ⟨p, l, e, R, s, m, args, below, meth, c, Q, G, A, nL'⟩ := Γ
  obtain ⟨hx, hb, hml, hown, hts, hK, hA, rfl, rfl, hB⟩ := C
  intro K hK' ad k n ls st X ho
  dsimp only [oLadd] at ho
  obtain ⟨b, t, rfl, h⟩ := pL_spec ho
  obtain ⟨a, t2, rfl, h⟩ := pL_spec h
  intro H locs la hP hD hS hl
  exact lv_ladd hx hb d (hK' _ _ _ _ _ _ _ h H locs la hP hD hS hl)
def oLmul (nx : Nat) : aO := fun K ad k n ls st X => pL (fun b t => pL (fun a t2 => K nx ad k n ls (.long (a * b) :: t2) X) t) st
theorem snd_lmul (C : FOK Γ cc Ts own nL rm) (d : decode cc pc = .ok (.lmul, 1)) : Snd Γ pc (oLmul (pc + 1)) := by
  obtain ⟨p, l, e, R, s, m, args, below, meth, c, Q, G, A, nL'⟩ := Γ
  obtain ⟨hx, hb, hml, hown, hts, hK, hA, rfl, rfl, hB⟩ := C
  intro K hK' ad k n ls st X ho
  dsimp only [oLmul] at ho
  obtain ⟨b, t, rfl, h⟩ := pL_spec ho
  obtain ⟨a, t2, rfl, h⟩ := pL_spec h
  intro H locs la hP hD hS hl
  exact lv_lmul hx hb d (hK' _ _ _ _ _ _ _ h H locs la hP hD hS hl)
def oLcmp (nx : Nat) : aO := fun K ad k n ls st X => pL (fun b t => pL (fun a t2 => K nx ad k n ls (.int (lg_cmp a b) :: t2) X) t) st
theorem snd_lcmp (C : FOK Γ cc Ts own nL rm) (d : decode cc pc = .ok (.lcmp, 1)) : Snd Γ pc (oLcmp (pc + 1)) := by
  obtain ⟨p, l, e, R, s, m, args, below, meth, c, Q, G, A, nL'⟩ := Γ
  obtain ⟨hx, hb, hml, hown, hts, hK, hA, rfl, rfl, hB⟩ := C
  intro K hK' ad k n ls st X ho
  dsimp only [oLcmp] at ho
  obtain ⟨b, t, rfl, h⟩ := pL_spec ho
  obtain ⟨a, t2, rfl, h⟩ := pL_spec h
  intro H locs la hP hD hS hl
  exact W.lcmp hx hb d (hK' _ _ _ _ _ _ _ h H locs la hP hD hS hl)
def oI2d (nx : Nat) : aO := fun K ad k n ls st X => pI (fun b t => K nx ad k n ls (.double (FP.i2d b) :: t) X) st
theorem snd_i2d (C : FOK Γ cc Ts own nL rm) (d : decode cc pc = .ok (.i2d, 1)) : Snd Γ pc (oI2d (pc + 1)) := by
  obtain ⟨p, l, e, R, s, m, args, below, meth, c, Q, G, A, nL'⟩ := Γ
  obtain ⟨hx, hb, hml, hown, hts, hK, hA, rfl, rfl, hB⟩ := C
  intro K hK' ad k n ls st X ho
  dsimp only [oI2d] at ho
  obtain ⟨b, t, rfl, h⟩ := pI_spec ho
  intro H locs la hP hD hS hl
  exact lv_i2d hx hb d (hK' _ _ _ _ _ _ _ h H locs la hP hD hS hl)
def oDdiv (nx : Nat) : aO := fun K ad k n ls st X => pD (fun b t => pD (fun a t2 => vf_n64 (FP.ddiv a b) ∧ K nx ad k n ls (.double (FP.ddiv a b) :: t2) X) t) st
theorem snd_ddiv (C : FOK Γ cc Ts own nL rm) (d : decode cc pc = .ok (.ddiv, 1)) : Snd Γ pc (oDdiv (pc + 1)) := by
  obtain ⟨p, l, e, R, s, m, args, below, meth, c, Q, G, A, nL'⟩ := Γ
  obtain ⟨hx, hb, hml, hown, hts, hK, hA, rfl, rfl, hB⟩ := C
  intro K hK' ad k n ls st X ho
  dsimp only [oDdiv] at ho
  obtain ⟨b, t, rfl, h⟩ := pD_spec ho
  obtain ⟨a, t2, rfl, hn, h⟩ := pD_spec h
  intro H locs la hP hD hS hl
  exact lv_ddiv hx hb d hn (hK' _ _ _ _ _ _ _ h H locs la hP hD hS hl)
def oDcmp (o : CmpOp) (nx : Nat) : aO := fun K ad k n ls st X => pD (fun b t => pD (fun a t2 => K nx ad k n ls (.int (Op.cmpValue (FP.dcmp a b) o) :: t2) X) t) st
theorem snd_dcmp (C : FOK Γ cc Ts own nL rm) {o : CmpOp} (d : decode cc pc = .ok (.dcmp o, 1)) : Snd Γ pc (oDcmp o (pc + 1)) := by
  obtain ⟨p, l, e, R, s, m, args, below, meth, c, Q, G, A, nL'⟩ := Γ
  obtain ⟨hx, hb, hml, hown, hts, hK, hA, rfl, rfl, hB⟩ := C
  intro K hK' ad k n ls st X ho
  dsimp only [oDcmp] at ho
  obtain ⟨b, t, rfl, h⟩ := pD_spec ho
  obtain ⟨a, t2, rfl, h⟩ := pD_spec h
  intro H locs la hP hD hS hl
  exact lv_dcmp hx hb d (hK' _ _ _ _ _ _ _ h H locs la hP hD hS hl)
def oIf_eq (tg nx : Nat) : aO := fun K ad k n ls st X => pI (fun x t => (x = 0 → K tg ad k n ls t X) ∧ (¬ x = 0 → K nx ad k n ls t X)) st
theorem snd_if_eq (C : FOK Γ cc Ts own nL rm) {off : Int} {tg : Nat} (d : decode cc pc = .ok (.ifCond .eq off, 3)) (ht : (pc : Int) + off = (tg : Int)) : Snd Γ pc (oIf_eq tg (pc + 3)) := by
  obtain ⟨p, l, e, R, s, m, args, below, meth, c, Q, G, A, nL'⟩ := Γ
  obtain ⟨hx, hb, hml, hown, hts, hK, hA, rfl, rfl, hB⟩ := C
  intro K hK' ad k n ls st X ho
  dsimp only [oIf_eq] at ho
  obtain ⟨x, t, rfl, h1, h2⟩ := pI_spec ho
  intro H locs la hP hD hS hl
  exact lv_if_eq hx hb d ht (fun q => hK' _ _ _ _ _ _ _ (h1 q) H locs la hP hD hS hl) (fun q => hK' _ _ _ _ _ _ _ (h2 q) H locs la hP hD hS hl)
def oIf_ne (tg nx : Nat) : aO := fun K ad k n ls st X => pI (fun x t => (¬ x = 0 → K tg ad k n ls t X) ∧ (x = 0 → K nx ad k n ls t X)) st
theorem snd_if_ne (C : FOK Γ cc Ts own nL rm) {off : Int} {tg : Nat} (d : decode cc pc = .ok (.ifCond .ne off, 3)) (ht : (pc : Int) + off = (tg : Int)) : Snd Γ pc (oIf_ne tg (pc + 3)) := by
  obtain ⟨p, l, e, R, s, m, args, below, meth, c, Q, G, A, nL'⟩ := Γ
  obtain ⟨hx, hb, hml, hown, hts, hK, hA, rfl, rfl, hB⟩ := C
  intro K hK' ad k n ls st X ho
  dsimp only [oIf_ne] at ho
  obtain ⟨x, t, rfl, h1, h2⟩ := pI_spec ho
  intro H locs la hP hD hS hl
  exact lv_if_ne hx hb d ht (fun q => hK' _ _ _ _ _ _ _ (h1 q) H locs la hP hD hS hl) (fun q => hK' _ _ _ _ _ _ _ (h2 q) H locs la hP hD hS hl)
def oIf_lt (tg nx : Nat) : aO := fun K ad k n ls st X => pI (fun x t => (x < 0 → K tg ad k n ls t X) ∧ (¬ x < 0 → K nx ad k n ls t X)) st
theorem snd_if_lt (C : FOK Γ cc Ts own nL rm) {off : Int} {tg : Nat} (d : decode cc pc = .ok (.ifCond .lt off, 3)) (ht : (pc : Int) + off = (tg : Int)) : Snd Γ pc (oIf_lt tg (pc + 3)) := by
  obtain ⟨p, l, e, R, s, m, args, below, meth, c, Q, G, A, nL'⟩ := Γ
  obtain ⟨hx, hb, hml, hown, hts, hK, hA, rfl, rfl, hB⟩ := C
  intro K hK' ad k n ls st X ho
  dsimp only [oIf_lt] at ho
  obtain ⟨x, t, rfl, h1, h2⟩ := pI_spec ho
  intro H locs la hP hD hS hl
  exact lv_if_lt hx hb d ht (fun q => hK' _ _ _ _ _ _ _ (h1 q) H locs la hP hD hS hl) (fun q => hK' _ _ _ _ _ _ _ (h2 q) H locs la hP hD hS hl)
def oIf_ge (tg nx : Nat) : aO := fun K ad k n ls st X => pI (fun x t => (0 ≤ x → K tg ad k n ls t X) ∧ (¬ 0 ≤ x → K nx ad k n ls t X)) st
theorem snd_if_ge (C : FOK Γ cc Ts own nL rm) {off : Int} {tg : Nat} (d : decode cc pc = .ok (.ifCond .ge off, 3)) (ht : (pc : Int) + off = (tg : Int)) : Snd Γ pc (oIf_ge tg (pc + 3)) := by
  obtain ⟨p, l, e, R, s, m, args, below, meth, c, Q, G, A, nL'⟩ := Γ
  obtain ⟨hx, hb, hml, hown, hts, hK, hA, rfl, rfl, hB⟩ := C
  intro K hK' ad k n ls st X ho
  dsimp only [oIf_ge] at ho
  obtain ⟨x, t, rfl, h1, h2⟩ := pI_spec ho
  intro H locs la hP hD hS hl
  exact lv_if_ge hx hb d ht (fun q => hK' _ _ _ _ _ _ _ (h1 q) H locs la hP hD hS hl) (fun q => hK' _ _ _ _ _ _ _ (h2 q) H locs la hP hD hS hl)
def oIf_gt (tg nx : Nat) : aO := fun K ad k n ls st X => pI (fun x t => (0 < x → K tg ad k n ls t X) ∧ (¬ 0 < x → K nx ad k n ls t X)) st
theorem snd_if_gt (C : FOK Γ cc Ts own nL rm) {off : Int} {tg : Nat} (d : decode cc pc = .ok (.ifCond .gt off, 3)) (ht : (pc : Int) + off = (tg : Int)) : Snd Γ pc (oIf_gt tg (pc + 3)) := by
  obtain ⟨p, l, e, R, s, m, args, below, meth, c, Q, G, A, nL'⟩ := Γ
  obtain ⟨hx, hb, hml, hown, hts, hK, hA, rfl, rfl, hB⟩ := C
  intro K hK' ad k n ls st X ho
  dsimp only [oIf_gt] at ho
  obtain ⟨x, t, rfl, h1, h2⟩ := pI_spec ho
  intro H locs la hP hD hS hl
  exact lv_if_gt hx hb d ht (fun q => hK' _ _ _ _ _ _ _ (h1 q) H locs la hP hD hS hl) (fun q => hK' _ _ _ _ _ _ _ (h2 q) H locs la hP hD hS hl)
def oIf_le (tg nx : Nat) : aO := fun K ad k n ls st X => pI (fun x t => (x ≤ 0 → K tg ad k n ls t X) ∧ (¬ x ≤ 0 → K nx ad k n ls t X)) st
theorem snd_if_le (C : FOK Γ cc Ts own nL rm) {off : Int} {tg : Nat} (d : decode cc pc = .ok (.ifCond .le off, 3)) (ht : (pc : Int) + off = (tg : Int)) : Snd Γ pc (oIf_le tg (pc + 3)) := by
  obtain ⟨p, l, e, R, s, m, args, below, meth, c, Q, G, A, nL'⟩ := Γ
  obtain ⟨hx, hb, hml, hown, hts, hK, hA, rfl, rfl, hB⟩ := C
  intro K hK' ad k n ls st X ho
  dsimp only [oIf_le] at ho
  obtain ⟨x, t, rfl, h1, h2⟩ := pI_spec ho
  intro H locs la hP hD hS hl
  exact lv_if_le hx hb d ht (fun q => hK' _ _ _ _ _ _ _ (h1 q) H locs la hP hD hS hl) (fun q => hK' _ _ _ _ _ _ _ (h2 q) H locs la hP hD hS hl)
def oIc_eq (tg nx : Nat) : aO := fun K ad k n ls st X => pI (fun y t => pI (fun x t2 => (x = y → K tg ad k n ls t2 X) ∧ (¬ x = y → K nx ad k n ls t2 X)) t) st
theorem snd_icmp_eq (C : FOK Γ cc Ts own nL rm) {off : Int} {tg : Nat} (d : decode cc pc = .ok (.if_icmp .eq off, 3)) (ht : (pc : Int) + off = (tg : Int)) : Snd Γ pc (oIc_eq tg (pc + 3)) := by
  obtain ⟨p, l, e, R, s, m, args, below, meth, c, Q, G, A, nL'⟩ := Γ
  obtain ⟨hx, hb, hml, hown, hts, hK, hA, rfl, rfl, hB⟩ := C
  intro K hK' ad k n ls st X ho
  dsimp only [oIc_eq] at ho
  obtain ⟨y, t, rfl, h⟩ := pI_spec ho
  obtain ⟨x, t2, rfl, h1, h2⟩ := pI_spec h
  intro H locs la hP hD hS hl
  exact lv_icmp_eq hx hb d ht (fun q => hK' _ _ _ _ _ _ _ (h1 q) H locs la hP hD hS hl) (fun q => hK' _ _ _ _ _ _ _ (h2 q) H locs la hP hD hS hl)
def oIc_ne (tg nx : Nat) : aO := fun K ad k n ls st X => pI (fun y t => pI (fun x t2 => (¬ x = y → K tg ad k n ls t2 X) ∧ (x = y → K nx ad k n ls t2 X)) t) st
theorem snd_icmp_ne (C : FOK Γ cc Ts own nL rm) {off : Int} {tg : Nat} (d : decode cc pc = .ok (.if_icmp .ne off, 3)) (ht : (pc : Int) + off = (tg : Int)) : Snd Γ pc (oIc_ne tg (pc + 3)) := by
  obtain ⟨p, l, e, R, s, m, args, below, meth, c, Q, G, A, nL'⟩ := Γ
  obtain ⟨hx, hb, hml, hown, hts, hK, hA, rfl, rfl, hB⟩ := C
  intro K hK' ad k n ls st X ho
  dsimp only [oIc_ne] at ho
  obtain ⟨y, t, rfl, h⟩ := pI_spec ho
  obtain ⟨x, t2, rfl, h1, h2⟩ := pI_spec h
  intro H locs la hP hD hS hl
  exact lv_icmp_ne hx hb d ht (fun q => hK' _ _ _ _ _ _ _ (h1 q) H locs la hP hD hS hl) (fun q => hK' _ _ _ _ _ _ _ (h2 q) H locs la hP hD hS hl)
def oIc_lt (tg nx : Nat) : aO := fun K ad k n ls st X => pI (fun y t => pI (fun x t2 => (x < y → K tg ad k n ls t2 X) ∧ (¬ x < y → K nx ad k n ls t2 X)) t) st
theorem snd_icmp_lt (C : FOK Γ cc Ts own nL rm) {off : Int} {tg : Nat} (d : decode cc pc = .ok (.if_icmp .lt off, 3)) (ht : (pc : Int) + off = (tg : Int)) : Snd Γ pc (oIc_lt tg (pc + 3)) := by
  obtain ⟨p, l, e, R, s, m, args, below, meth, c, Q, G, A, nL'⟩ := Γ
  obtain ⟨hx, hb, hml, hown, hts, hK, hA, rfl, rfl, hB⟩ := C
  intro K hK' ad k n ls st X ho
  dsimp only [oIc_lt] at ho
  obtain ⟨y, t, rfl, h⟩ := pI_spec ho
  obtain ⟨x, t2, rfl, h1, h2⟩ := pI_spec h
  intro H locs la hP hD hS hl
  exact lv_icmp_lt hx hb d ht (fun q => hK' _ _ _ _ _ _ _ (h1 q) H locs la hP hD hS hl) (fun q => hK' _ _ _ _ _ _ _ (h2 q) H locs la hP hD hS hl)
def oIc_ge (tg nx : Nat) : aO := fun K ad k n ls st X => pI (fun y t => pI (fun x t2 => (y ≤ x → K tg ad k n ls t2 X) ∧ (¬ y ≤ x → K nx ad k n ls t2 X)) t) st
theorem snd_icmp_ge (C : FOK Γ cc Ts own nL rm) {off : Int} {tg : Nat} (d : decode cc pc = .ok (.if_icmp .ge off, 3)) (ht : (pc : Int) + off = (tg : Int)) : Snd Γ pc (oIc_ge tg (pc + 3)) := by
  obtain ⟨p, l, e, R, s, m, args, below, meth, c, Q, G, A, nL'⟩ := Γ
  obtain ⟨hx, hb, hml, hown, hts, hK, hA, rfl, rfl, hB⟩ := C
  intro K hK' ad k n ls st X ho
  dsimp only [oIc_ge] at ho
  obtain ⟨y, t, rfl, h⟩ := pI_spec ho
  obtain ⟨x, t2, rfl, h1, h2⟩ := pI_spec h
  intro H locs la hP hD hS hl
  exact lv_icmp_ge hx hb d ht (fun q => hK' _ _ _ _ _ _ _ (h1 q) H locs la hP hD hS hl) (fun q => hK' _ _ _ _ _ _ _ (h2 q) H locs la hP hD hS hl)
def oIc_gt (tg nx : Nat) : aO := fun K ad k n ls st X => pI (fun y t => pI (fun x t2 => (y < x → K tg ad k n ls t2 X) ∧ (¬ y < x → K nx ad k n ls t2 X)) t) st
theorem snd_icmp_gt (C : FOK Γ cc Ts own nL rm) {off : Int} {tg : Nat} (d : decode cc pc = .ok (.if_icmp .gt off, 3)) (ht : (pc : Int) + off = (tg : Int)) : Snd Γ pc (oIc_gt tg (pc + 3)) := by
  obtain ⟨p, l, e, R, s, m, args, below, meth, c, Q, G, A, nL'⟩ := Γ
  obtain ⟨hx, hb, hml, hown, hts, hK, hA, rfl, rfl, hB⟩ := C
  intro K hK' ad k n ls st X ho
  dsimp only [oIc_gt] at ho
  obtain ⟨y, t, rfl, h⟩ := pI_spec ho
  obtain ⟨x, t2, rfl, h1, h2⟩ := pI_spec h
  intro H locs la hP hD hS hl
  exact lv_icmp_gt hx hb d ht (fun q => hK' _ _ _ _ _ _ _ (h1 q) H locs la hP hD hS hl) (fun q => hK' _ _ _ _ _ _ _ (h2 q) H locs la hP hD hS hl)
def oIc_le (tg nx : Nat) : aO := fun K ad k n ls st X => pI (fun y t => pI (fun x t2 => (x ≤ y → K tg ad k n ls t2 X) ∧ (¬ x ≤ y → K nx ad k n ls t2 X)) t) st
theorem snd_icmp_le (C : FOK Γ cc Ts own nL rm) {off : Int} {tg : Nat} (d : decode cc pc = .ok (.if_icmp .le off, 3)) (ht : (pc : Int) + off = (tg : Int)) : Snd Γ pc (oIc_le tg (pc + 3)) := by
  obtain ⟨p, l, e, R, s, m, args, below, meth, c, Q, G, A, nL'⟩ := Γ
  obtain ⟨hx, hb, hml, hown, hts, hK, hA, rfl, rfl, hB⟩ := C
  intro K hK' ad k n ls st X ho
  dsimp only [oIc_le] at ho
  obtain ⟨y, t, rfl, h⟩ := pI_spec ho
  obtain ⟨x, t2, rfl, h1, h2⟩ := pI_spec h
  intro H locs la hP hD hS hl
  exact lv_icmp_le hx hb d ht (fun q => hK' _ _ _ _ _ _ _ (h1 q) H locs la hP hD hS hl) (fun q => hK' _ _ _ _ _ _ _ (h2 q) H locs la hP hD hS hl)
def oGo (tg : Nat) : aO := fun K ad k n ls st X => K tg ad k n ls st X
theorem snd_goto (C : FOK Γ cc Ts own nL rm) {off : Int} {tg : Nat} (d : decode cc pc = .ok (.goto off, 3)) (ht : (pc : Int) + off = (tg : Int)) : Snd Γ pc (oGo tg) := by
  obtain ⟨p, l, e, R, s, m, args, below, meth, c, Q, G, A, nL'⟩ := Γ
  obtain ⟨hx, hb, hml, hown, hts, hK, hA, rfl, rfl, hB⟩ := C
  intro K hK' ad k n ls st X ho
  dsimp only [oGo] at ho
  intro H locs la hP hD hS hl
  exact lv_goto hx hb d ht (hK' _ _ _ _ _ _ _ ho H locs la hP hD hS hl)
def oDup (nx : Nat) : aO := fun K ad k n ls st X => pV (fun v t => ck (Nat.beq v.category 1) (K nx ad k n ls (v :: v :: t) X)) st
theorem snd_dup (C : FOK Γ cc Ts own nL rm) (d : decode cc pc = .ok (.dup, 1)) : Snd Γ pc (oDup (pc + 1)) := by
  obtain ⟨p, l, e, R, s, m, args, below, meth, c, Q, G, A, nL'⟩ := Γ
  obtain ⟨hx, hb, hml, hown, hts, hK, hA, rfl, rfl, hB⟩ := C
  intro K hK' ad k n ls st X ho
  dsimp only [oDup] at ho
  obtain ⟨v, t, rfl, h⟩ := pV_spec ho
  obtain ⟨hc, h⟩ := ck_spec h
  intro H locs la hP hD hS hl
  exact lv_dup hx hb d ((aV_cat ad v).trans (Nat.eq_of_beq_eq_true hc)) (hK' _ _ _ _ _ _ _ h H locs la hP hD hS hl)
def oDup2 (nx : Nat) : aO := fun K ad k n ls st X => pV (fun v t => pV (fun w t2 => ck (Nat.beq v.category 1) (ck (Nat.beq w.category 1) (K nx ad k n ls (v :: w :: v :: w :: t2) X))) t) st
theorem snd_dup2 (C : FOK Γ cc Ts own nL rm) (d : decode cc pc = .ok (.dup2, 1)) : Snd Γ pc (oDup2 (pc + 1)) := by
  obtain ⟨p, l, e, R, s, m, args, below, meth, c, Q, G, A, nL'⟩ := Γ
  obtain ⟨hx, hb, hml, hown, hts, hK, hA, rfl, rfl, hB⟩ := C
  intro K hK' ad k n ls st X ho
  dsimp only [oDup2] at ho
  obtain ⟨v, t, rfl, h⟩ := pV_spec ho
  obtain ⟨w, t2, rfl, h⟩ := pV_spec h
  obtain ⟨hc, h⟩ := ck_spec h
  obtain ⟨hc2, h⟩ := ck_spec h
  intro H locs la hP hD hS hl
  exact lv_dup2_11 hx hb d ((aV_cat ad v).trans (Nat.eq_of_beq_eq_true hc)) ((aV_cat ad w).trans (Nat.eq_of_beq_eq_true hc2)) (hK' _ _ _ _ _ _ _ h H locs la hP hD hS hl)
def oGet (ci kf nx : Nat) : aO := fun K ad k n ls st X => pR (fun q t => gx q (eO ci fun fs => gx kf (fun v => K nx ad k n ls (v :: t) X) fs) X) st
theorem snd_get (C : FOK Γ cc Ts own nL rm) {ci kf index N : Nat} {ref Cn : String} {T : u_T} (d : decode cc pc = .ok (.getfield index, 3)) (hc : vwCl[ci]? = some (Cn, T, N)) (hk : kf < N) (hin : ∀ w ∈ u_ws Cn T N, w ∈ Ts) (href : ref = (T kf).1) (hw : Cond.fieldLink own index ref (T kf).2.1 (T kf).2.2.1 ∈ Ts) : Snd Γ pc (oGet ci kf (pc + 3)) := by
  obtain ⟨p, l, e, R, s, m, args, below, meth, c, Q, G, A, nL'⟩ := Γ
  obtain ⟨hx, hb, hml, hown, hts, hK, hA, rfl, rfl, hB⟩ := C
  intro K hK' ad k n ls st X ho
  dsimp only [oGet] at ho
  obtain ⟨q, t, rfl, h⟩ := pR_spec ho
  obtain ⟨e0, h1, h⟩ := gx_spec h
  obtain ⟨fs, he9, h9⟩ := eO_spec h
  subst he9
  clear h
  have h := h9
  obtain ⟨v, h2, h⟩ := gx_spec h
  subst href
  intro H locs la hP hD hS hl
  have hq := aX_get G ad X 0 q _ h1
  rw [Nat.zero_add] at hq
  exact va_get hx hb hts hin hown hK hP q hq hc kf hk (hts _ hw) (fun _ h9 => h9) (aS_get ad h2) d (hK' _ _ _ _ _ _ _ h H locs la hP hD hS hl)
theorem snd_getN (C : FOK Γ cc Ts own nL rm) {ci kf index N : Nat} {ref Cn : String} {T : u_T} (d : decode cc pc = .ok (.getfield index, 3)) (hc : vwCl[ci]? = some (Cn, T, N)) (hk : kf < N) (hin : ∀ w ∈ u_ws Cn T N, w ∈ Ts) (href : ref = (T kf).1) (hI : (T kf).2.2.1 = "I") (hown9 : own = "PaintedDie") (hw : (index, ref, (T kf).2.1) ∈ aNf) : Snd Γ pc (oGet ci kf (pc + 3)) := by
  obtain ⟨p, l, e, R, s, m, args, below, meth, c, Q, G, A, nL'⟩ := Γ
  obtain ⟨hx, hb, hml, hown, hts, hK, hA, rfl, rfl, hB⟩ := C
  intro K hK' ad k n ls st X ho
  dsimp only [oGet] at ho
  obtain ⟨q, t, rfl, h⟩ := pR_spec ho
  obtain ⟨e0, h1, h⟩ := gx_spec h
  obtain ⟨fs, he9, h9⟩ := eO_spec h
  subst he9
  clear h
  have h := h9
  obtain ⟨v, h2, h⟩ := gx_spec h
  subst href
  intro H locs la hP hD hS hl
  have hq := aX_get G ad X 0 q _ h1
  rw [Nat.zero_add] at hq
  have hN := (hB.1.1 _ hw).use (A := args) rfl
  dsimp only at hN
  rw [← hI, ← hown9] at hN
  exact va_getN hx hb hts hin hown hK hP q hq hc kf hk hN (fun _ h9 => h9) (aS_get ad h2) d (hK' _ _ _ _ _ _ _ h H locs la hP hD hS hl)
def oPut (ci kf nx : Nat) : aO := fun K ad k n ls st X => pI (fun x t => pR (fun q t2 => gx q (eO ci fun fs => sx kf (.int x) (fun fs2 => sx q (.inr (.inl (ci, fs2))) (fun X2 => K nx ad k n ls t2 X2) X) fs) X) t) st
theorem snd_put (C : FOK Γ cc Ts own nL rm) {ci kf index N : Nat} {ref Cn : String} {T : u_T} {ty0 : Nat → FieldType} (d : decode cc pc = .ok (.putfield index, 3)) (hc : vwCl[ci]? = some (Cn, T, N)) (hk : kf < N) (hin : ∀ w ∈ u_ws Cn T N, w ∈ Ts) (hty : ∀ k, k < N → parseFieldDescriptor (T k).2.2.1 = some (ty0 k)) (hnm : ∀ a, a < N → ∀ b, b < N → a ≠ b → (T a).2.1 ≠ (T b).2.1) (hfin : (T kf).2.2.2 = false) (hI : ty0 kf = .int) (href : ref = (T kf).1) (hw : Cond.fieldLink own index ref (T kf).2.1 (T kf).2.2.1 ∈ Ts) : Snd Γ pc (oPut ci kf (pc + 3)) := by
  obtain ⟨p, l, e, R, s, m, args, below, meth, c, Q, G, A, nL'⟩ := Γ
  obtain ⟨hx, hb, hml, hown, hts, hK, hA, rfl, rfl, hB⟩ := C
  intro K hK' ad k n ls st X ho
  dsimp only [oPut] at ho
  obtain ⟨x, t, rfl, h⟩ := pI_spec ho
  obtain ⟨q, t2, rfl, h⟩ := pR_spec h
  obtain ⟨e0, h1, h⟩ := gx_spec h
  obtain ⟨fs, he9, h9⟩ := eO_spec h
  subst he9
  clear h
  have h := h9
  obtain ⟨hlt, h⟩ := sx_spec h
  obtain ⟨-, h⟩ := sx_spec h
  subst href
  intro H locs la hP hD hS hl
  have hq := aX_get G ad X 0 q _ h1
  rw [Nat.zero_add] at hq
  have hset : (aX G ad 0 X).set q (ad q, aC G ad (.inr (.inl (ci, fs.set kf (.int x))))) = aX G ad 0 (X.set q (.inr (.inl (ci, fs.set kf (.int x))))) := by
    have h9 := aX_set G ad X 0 q (.inr (.inl (ci, fs.set kf (.int x))))
    rwa [Nat.zero_add] at h9
  have hmap : ((fs.map (aV ad)).set kf (.int x)) = (fs.set kf (.int x)).map (aV ad) := by rw [List.map_set]; rfl
  refine va_put hx hb hts hin ty0 hty hnm hown hK hP hD hS q hq hc kf hk (hts _ hw) (fun _ h9 => h9) hfin (ty := .int) (v := .int x) (by rw [hty kf hk, hI]) rfl rfl (by rw [List.length_map]; exact hlt) d (fun H1 locs1 hP1 hD1 hS1 => ?_)
  rw [hmap] at hP1 hD1
  have hP2 : va_P G.1 vwCl (aX G ad 0 (X.set q (.inr (.inl (ci, fs.set kf (.int x)))))) H1 := hset ▸ hP1
  have hD2 : va_D A (aX G ad 0 (X.set q (.inr (.inl (ci, fs.set kf (.int x)))))) := hset ▸ hD1
  exact hK' _ _ _ _ _ _ _ h H1 locs1 la hP2 hD2 hS1 hl
def oIald (nx : Nat) : aO := fun K ad k n ls st X => pI (fun i t => pR (fun q t2 => gx q (eI fun L f => vp_in i L ∧ K nx ad k n ls (.int (f i.toNatClampNeg) :: t2) X) X) t) st
theorem snd_iaload (C : FOK Γ cc Ts own nL rm) (d : decode cc pc = .ok (.iaload, 1)) : Snd Γ pc (oIald (pc + 1)) := by
  obtain ⟨p, l, e, R, s, m, args, below, meth, c, Q, G, A, nL'⟩ := Γ
  obtain ⟨hx, hb, hml, hown, hts, hK, hA, rfl, rfl, hB⟩ := C
  intro K hK' ad k n ls st X ho
  dsimp only [oIald] at ho
  obtain ⟨i, t, rfl, h⟩ := pI_spec ho
  obtain ⟨q, t2, rfl, h⟩ := pR_spec h
  obtain ⟨e0, h1, h⟩ := gx_spec h
  obtain ⟨L, f, rfl, hin, h⟩ := eI_spec h
  intro H locs la hP hD hS hl
  have hq := aX_get G ad X 0 q _ h1
  rw [Nat.zero_add] at hq
  exact va_iald hx hb hK hP q 0 hq rfl hin d (hK' _ _ _ _ _ _ _ h H locs la hP hD hS hl)
def oZald (nx : Nat) : aO := fun K ad k n ls st X => pI (fun i t => pR (fun q t2 => gx q (eZ fun L f => vp_in i L ∧ K nx ad k n ls (.int (f i.toNatClampNeg) :: t2) X) X) t) st
theorem snd_baload (C : FOK Γ cc Ts own nL rm) (d : decode cc pc = .ok (.baload, 1)) : Snd Γ pc (oZald (pc + 1)) := by
  obtain ⟨p, l, e, R, s, m, args, below, meth, c, Q, G, A, nL'⟩ := Γ
  obtain ⟨hx, hb, hml, hown, hts, hK, hA, rfl, rfl, hB⟩ := C
  intro K hK' ad k n ls st X ho
  dsimp only [oZald] at ho
  obtain ⟨i, t, rfl, h⟩ := pI_spec ho
  obtain ⟨q, t2, rfl, h⟩ := pR_spec h
  obtain ⟨e0, h1, h⟩ := gx_spec h
  obtain ⟨L, f, rfl, hin, h⟩ := eZ_spec h
  intro H locs la hP hD hS hl
  have hq := aX_get G ad X 0 q _ h1
  rw [Nat.zero_add] at hq
  exact va_zald hx hb hK hP q 1 hq rfl hin d (hK' _ _ _ _ _ _ _ h H locs la hP hD hS hl)
def oJald (nx : Nat) : aO := fun K ad k n ls st X => pI (fun i t => pR (fun q t2 => gx q (eJ fun L f => vp_in i L ∧ K nx ad k n ls (.long (f i.toNatClampNeg) :: t2) X) X) t) st
theorem snd_laload (C : FOK Γ cc Ts own nL rm) (d : decode cc pc = .ok (.laload, 1)) : Snd Γ pc (oJald (pc + 1)) := by
  obtain ⟨p, l, e, R, s, m, args, below, meth, c, Q, G, A, nL'⟩ := Γ
  obtain ⟨hx, hb, hml, hown, hts, hK, hA, rfl, rfl, hB⟩ := C
  intro K hK' ad k n ls st X ho
  dsimp only [oJald] at ho
  obtain ⟨i, t, rfl, h⟩ := pI_spec ho
  obtain ⟨q, t2, rfl, h⟩ := pR_spec h
  obtain ⟨e0, h1, h⟩ := gx_spec h
  obtain ⟨L, f, rfl, hin, h⟩ := eJ_spec h
  intro H locs la hP hD hS hl
  have hq := aX_get G ad X 0 q _ h1
  rw [Nat.zero_add] at hq
  exact va_lald hx hb hK hP q 2 hq rfl hin d (hK' _ _ _ _ _ _ _ h H locs la hP hD hS hl)
def oIast (nx : Nat) : aO := fun K ad k n ls st X => pI (fun x t => pI (fun i t2 => pR (fun q t3 => gx q (eI fun L f => vp_in i L ∧ sx q (.inl (false, L, upd f i.toNatClampNeg x)) (fun X2 => K nx ad k n ls t3 X2) X) X) t2) t) st
theorem snd_iastore (C : FOK Γ cc Ts own nL rm) (d : decode cc pc = .ok (.iastore, 1)) : Snd Γ pc (oIast (pc + 1)) := by
  obtain ⟨p, l, e, R, s, m, args, below, meth, c, Q, G, A, nL'⟩ := Γ
  obtain ⟨hx, hb, hml, hown, hts, hK, hA, rfl, rfl, hB⟩ := C
  intro K hK' ad k n ls st X ho
  dsimp only [oIast] at ho
  obtain ⟨x, t, rfl, h⟩ := pI_spec ho
  obtain ⟨i, t2, rfl, h⟩ := pI_spec h
  obtain ⟨q, t3, rfl, h⟩ := pR_spec h
  obtain ⟨e0, h1, h⟩ := gx_spec h
  obtain ⟨L, f, rfl, hin, h⟩ := eI_spec h
  obtain ⟨-, h⟩ := sx_spec h
  intro H locs la hP hD hS hl
  have hq := aX_get G ad X 0 q _ h1
  rw [Nat.zero_add] at hq
  have hset : (aX G ad 0 X).set q (ad q, aC G ad (.inl (false, L, upd f i.toNatClampNeg x))) = aX G ad 0 (X.set q (.inl (false, L, upd f i.toNatClampNeg x))) := by
    have h9 := aX_set G ad X 0 q (.inl (false, L, upd f i.toNatClampNeg x))
    rwa [Nat.zero_add] at h9
  refine va_iast hx hb hK hP hD hS q 0 hq rfl hin d (fun H1 locs1 hP1 hD1 hS1 => ?_)
  have hP2 : va_P G.1 vwCl (aX G ad 0 (X.set q (.inl (false, L, upd f i.toNatClampNeg x)))) H1 := hset ▸ hP1
  have hD2 : va_D A (aX G ad 0 (X.set q (.inl (false, L, upd f i.toNatClampNeg x)))) := hset ▸ hD1
  exact hK' _ _ _ _ _ _ _ h H1 locs1 la hP2 hD2 hS1 hl
def oZast (nx : Nat) : aO := fun K ad k n ls st X => pI (fun x t => pI (fun i t2 => pR (fun q t3 => gx q (eZ fun L f => vp_in i L ∧ (x = 0 ∨ x = 1) ∧ sx q (.inl (true, L, upd f i.toNatClampNeg x)) (fun X2 => K nx ad k n ls t3 X2) X) X) t2) t) st
theorem snd_bastore (C : FOK Γ cc Ts own nL rm) (d : decode cc pc = .ok (.bastore, 1)) : Snd Γ pc (oZast (pc + 1)) := by
  obtain ⟨p, l, e, R, s, m, args, below, meth, c, Q, G, A, nL'⟩ := Γ
  obtain ⟨hx, hb, hml, hown, hts, hK, hA, rfl, rfl, hB⟩ := C
  intro K hK' ad k n ls st X ho
  dsimp only [oZast] at ho
  obtain ⟨x, t, rfl, h⟩ := pI_spec ho
  obtain ⟨i, t2, rfl, h⟩ := pI_spec h
  obtain ⟨q, t3, rfl, h⟩ := pR_spec h
  obtain ⟨e0, h1, h⟩ := gx_spec h
  obtain ⟨L, f, rfl, hin, hz, h⟩ := eZ_spec h
  obtain ⟨-, h⟩ := sx_spec h
  intro H locs la hP hD hS hl
  have hq := aX_get G ad X 0 q _ h1
  rw [Nat.zero_add] at hq
  have hset : (aX G ad 0 X).set q (ad q, aC G ad (.inl (true, L, upd f i.toNatClampNeg x))) = aX G ad 0 (X.set q (.inl (true, L, upd f i.toNatClampNeg x))) := by
    have h9 := aX_set G ad X 0 q (.inl (true, L, upd f i.toNatClampNeg x))
    rwa [Nat.zero_add] at h9
  refine va_zast hx hb hK hP hD hS q 1 hq rfl hin d (fun H1 locs1 hP1 hD1 hS1 => ?_)
  have hz9 : vp_nar .boolean x = x := by rcases hz with rfl | rfl <;> decide
  rw [hz9] at hP1 hD1
  have hP2 : va_P G.1 vwCl (aX G ad 0 (X.set q (.inl (true, L, upd f i.toNatClampNeg x)))) H1 := hset ▸ hP1
  have hD2 : va_D A (aX G ad 0 (X.set q (.inl (true, L, upd f i.toNatClampNeg x)))) := hset ▸ hD1
  exact hK' _ _ _ _ _ _ _ h H1 locs1 la hP2 hD2 hS1 hl
def oJast (nx : Nat) : aO := fun K ad k n ls st X => pL (fun x t => pI (fun i t2 => pR (fun q t3 => gx q (eJ fun L f => vp_in i L ∧ sx q (.inr (.inr (L, vp_updL f i.toNatClampNeg x))) (fun X2 => K nx ad k n ls t3 X2) X) X) t2) t) st
theorem snd_lastore (C : FOK Γ cc Ts own nL rm) (d : decode cc pc = .ok (.lastore, 1)) : Snd Γ pc (oJast (pc + 1)) := by
  obtain ⟨p, l, e, R, s, m, args, below, meth, c, Q, G, A, nL'⟩ := Γ
  obtain ⟨hx, hb, hml, hown, hts, hK, hA, rfl, rfl, hB⟩ := C
  intro K hK' ad k n ls st X ho
  dsimp only [oJast] at ho
  obtain ⟨x, t, rfl, h⟩ := pL_spec ho
  obtain ⟨i, t2, rfl, h⟩ := pI_spec h
  obtain ⟨q, t3, rfl, h⟩ := pR_spec h
  obtain ⟨e0, h1, h⟩ := gx_spec h
  obtain ⟨L, f, rfl, hin, h⟩ := eJ_spec h
  obtain ⟨-, h⟩ := sx_spec h
  intro H locs la hP hD hS hl
  have hq := aX_get G ad X 0 q _ h1
  rw [Nat.zero_add] at hq
  have hset : (aX G ad 0 X).set q (ad q, aC G ad (.inr (.inr (L, vp_updL f i.toNatClampNeg x)))) = aX G ad 0 (X.set q (.inr (.inr (L, vp_updL f i.toNatClampNeg x)))) := by
    have h9 := aX_set G ad X 0 q (.inr (.inr (L, vp_updL f i.toNatClampNeg x)))
    rwa [Nat.zero_add] at h9
  refine va_last hx hb hK hP hD hS q 2 hq rfl hin d (fun H1 locs1 hP1 hD1 hS1 => ?_)
  have hP2 : va_P G.1 vwCl (aX G ad 0 (X.set q (.inr (.inr (L, vp_updL f i.toNatClampNeg x))))) H1 := hset ▸ hP1
  have hD2 : va_D A (aX G ad 0 (X.set q (.inr (.inr (L, vp_updL f i.toNatClampNeg x))))) := hset ▸ hD1
  exact hK' _ _ _ _ _ _ _ h H1 locs1 la hP2 hD2 hS1 hl
def oAlen (nx : Nat) : aO := fun K ad k n ls st X => pR (fun q t => gx q (eLen fun L => K nx ad k n ls (.int (nI L) :: t) X) X) st
theorem snd_alen (C : FOK Γ cc Ts own nL rm) (d : decode cc pc = .ok (.arraylength, 1)) : Snd Γ pc (oAlen (pc + 1)) := by
  obtain ⟨p, l, e, R, s, m, args, below, meth, c, Q, G, A, nL'⟩ := Γ
  obtain ⟨hx, hb, hml, hown, hts, hK, hA, rfl, rfl, hB⟩ := C
  intro K hK' ad k n ls st X ho
  dsimp only [oAlen] at ho
  obtain ⟨q, t, rfl, h⟩ := pR_spec ho
  obtain ⟨e0, h1, h⟩ := gx_spec h
  intro H locs la hP hD hS hl
  have hq := aX_get G ad X 0 q _ h1
  rw [Nat.zero_add] at hq
  match e0, h1, h, hq with
  | .inl (true, L, f), h1, h, hq => exact va_alen hx hb hK hP q 1 hq (ty := .boolean) rfl rfl d (hK' _ _ _ _ _ _ _ h H locs la hP hD hS hl)
  | .inl (false, L, f), h1, h, hq => exact va_alen hx hb hK hP q 0 hq (ty := .int) rfl rfl d (hK' _ _ _ _ _ _ _ h H locs la hP hD hS hl)
  | .inr (.inr (L, f)), h1, h, hq => exact va_alen hx hb hK hP q 2 hq (ty := .long) rfl rfl d (hK' _ _ _ _ _ _ _ h H locs la hP hD hS hl)
  | .inr (.inl _), h1, h, hq => exact h.elim
end OPS
end
section
/-! ===== contracts over the abstract machine; calls; ends ===== -/
/-- the world's picture at the end -/
abbrev aP (K : aG) (ad : Nat → Nat) (X : List aE) (H : Heap) : Prop := va_P K.1 vwCl (aX K ad 0 X) H
def aPc (K : aG) (ad : Nat → Nat) (av : List Value) (X : List aE) (sz : Nat) : Array Value → State → Prop :=
  va_Pc (av.map (aV ad)) (fun U => U.heap.size = sz ∧ aP K ad X U.heap ∧ va_K K.1 vwCl (aT K) U ∧ va_D (fun _ => True) (aX K ad 0 X) ∧ aB U)
abbrev aA (K : aG) (ad : Nat → Nat) (X : List aE) (sz : Nat) : Nat → Prop := va_A (aX K ad 0 X) sz
def aBk (K : aG) (ad : Nat → Nat) (X : List aE) (sz : Nat) : List aE → State → Prop := fun X2 t => aP K ad X2 t.heap ∧ va_D (aA K ad X sz) (aX K ad 0 X2)
/-- predicate transformers of callees: by the kind of answer -/
abbrev aTi : Type := List Value → List aE → (Int32 → List aE → Prop) → Prop
abbrev aTl : Type := List Value → List aE → (Int64 → List aE → Prop) → Prop
abbrev aTd : Type := List Value → List aE → (UInt64 → List aE → Prop) → Prop
abbrev aTv : Type := List Value → List aE → (List aE → Prop) → Prop
def aMi (y : MethodName) (ws : List Cond) (rm : Room) (T : aTi) : Prop := ∀ (l : Launch) (K : aG) (ad : Nat → Nat) (sz : Nat) (av : List Value) (X : List aE) (post : Int32 → List aE → Prop), T av X post →
  Met l y ws rm (aPc K ad av X sz) (va_Qi post (aBk K ad X sz) (aA K ad X sz)) rm.cells rm.slots (aA K ad X sz)
def aMl (y : MethodName) (ws : List Cond) (rm : Room) (T : aTl) : Prop := ∀ (l : Launch) (K : aG) (ad : Nat → Nat) (sz : Nat) (av : List Value) (X : List aE) (post : Int64 → List aE → Prop), T av X post →
  Met l y ws rm (aPc K ad av X sz) (va_Ql post (aBk K ad X sz) (aA K ad X sz)) rm.cells rm.slots (aA K ad X sz)
def aMd (y : MethodName) (ws : List Cond) (rm : Room) (T : aTd) : Prop := ∀ (l : Launch) (K : aG) (ad : Nat → Nat) (sz : Nat) (av : List Value) (X : List aE) (post : UInt64 → List aE → Prop), T av X post →
  Met l y ws rm (aPc K ad av X sz) (va_Qd post (aBk K ad X sz) (aA K ad X sz)) rm.cells rm.slots (aA K ad X sz)
def aMv (y : MethodName) (ws : List Cond) (rm : Room) (T : aTv) : Prop := ∀ (l : Launch) (K : aG) (ad : Nat → Nat) (sz : Nat) (av : List Value) (X : List aE) (post : List aE → Prop), T av X post →
  Met l y ws rm (aPc K ad av X sz) (va_Qv post (aBk K ad X sz) (aA K ad X sz)) rm.cells rm.slots (aA K ad X sz)
theorem aPc_blind (K : aG) (ad : Nat → Nat) (av : List Value) (X : List aE) (sz : Nat) : FrameBlind (aPc K ad av X sz) := fun a U g mk q => by
  obtain ⟨q0, q1, q2, q3, q4, q5⟩ := q
  exact ⟨q0, q1, q2, va_K.moved (u := U) (U := U.calling g mk a) (Vm.Alike.refl U.vm) q3, q4, q5.same rfl⟩
theorem aPc_at {K : aG} {ad : Nat → Nat} {av : List Value} {X : List aE} {s U : State} {H : Heap} {A : Nat → Prop} (hP : aP K ad X H) (hK : va_K K.1 vwCl (aT K) s) (hD : va_D A (aX K ad 0 X)) (hB : aB s) (hU : U.heap = H) (hW : s.WarmedH U.vm) : aPc K ad av X H.size (av.map (aV ad)).toArray U :=
  ⟨rfl, by rw [hU], by rw [hU]; exact hP, va_K.moved hW.alike hK, hD.weaken (fun _ _ _ _ => trivial), hB.warm hW⟩
/-- a callee's cells are the caller's -/
theorem aA_free {K : aG} {ad : Nat → Nat} {X : List aE} {A : Nat → Prop} {H0 H : Heap} {locs : List Loc} (hD : va_D A (aX K ad 0 X)) (hS : va_S A H0 H locs) (hA : ∀ q, H0.size ≤ q → A q) : ∀ q, aA K ad X H.size q → A q := by
  intro q h
  rcases h with ⟨k, e, h⟩ | h
  · exact hD.2 k (q, e) h
  · exact hA q (Nat.le_trans hS.1 h)
/-- what a call site is: whatever runs it may rely on -/
def aSite (Γ : aΓ) (pc n : Nat) (ro : Option Nat) (mc ms : Nat) (y : MethodName) (ws : List Cond) (rm : Room) : Prop :=
  match Γ with
  | (p, l, e, R, s, m, args, below, meth, c, Q, K, A, nL) => ∀ (Pc : Array Value → State → Prop) (Qc : Array Value → State → Outcome → State → Prop) (free : Addr → Prop) (H : Heap) (locs : List Loc) (k sl : Nat) (la : Array Slot) (av rest : List Value),
    Met l y ws rm Pc Qc mc ms free → FrameBlind Pc → (∀ U : State, U.heap = H → s.WarmedH U.vm → Pc av.toArray U) → av.length = n → la.size = nL → (rest.map fun v => v.category).sum ≤ 8 → k + mc ≤ R.cells ∧ sl + ms ≤ R.slots →
    (∀ ci, ro = some ci → ∃ (b : Nat) (As : List Value) (cellB : Cell) (q : vw_C), av = .ref b :: As ∧ vwCl[ci]? = some q ∧ H[b]? = some cellB ∧ cellB.vm.isStatics = false ∧ s.vm.findClass q.1 = some cellB.cls) →
    va_Run p l e R s m args below meth c H locs k sl mc ms (F0 m pc la (av.reverse ++ rest)) rest (Qc av.toArray) free
section SITES
variable {Γ : aΓ} {cc : ByteArray} {Ts : List Cond} {own : String} {nL : Nat} {rm : Room} {pc : Nat}
variable {y : MethodName} {ws ws' : List Cond} {rm' : Room} {bytes : ByteArray} {maxL : Nat} {ret : Option FieldType} {index mc ms n : Nat}
/-- an ordinary call of a method of the class Cn on an object -/
theorem site_V (C : FOK Γ cc Ts own nL rm) {Cn : String} {ci : Nat} {T : u_T} {N : Nat} (hc : vwCl[ci]? = some (Cn, T, N)) (d : decode cc pc = .ok (.invokevirtual index, 3)) (hg : GoodIn Ts (wsV own index Cn y ws)) (hw : ws = Cond.code y bytes maxL ret :: ws') (hrc : rm'.cells = mc) (hrs : rm'.slots = ms)
    (hd : y.cls = Cn ∧ y.cls ≠ "java/lang/invoke/MethodHandle" ∧ y.cls ≠ "java/lang/invoke/VarHandle" ∧ (parseMethodDescriptor y.desc).map (fun d => d.parameters.length) = some n) (hR : rm'.frames + 1 ≤ rm.frames ∧ 8 + (maxL + 11) + rm'.locals ≤ rm.locals) : aSite Γ pc (n + 1) (some ci) mc ms y ws rm' := by
  obtain ⟨p, l, e, R, s, m, args, below, meth, c, Q, G, A, nL'⟩ := Γ
  obtain ⟨hx, hb, hml, hown, hts, hK, hA, rfl, rfl, hB⟩ := C
  intro Pc Qc free H locs k sl la av rest hM hbl hpc hn hsz hcat hf hro
  obtain ⟨b, As, cellB, q, rfl, hq, h1, h2, h3⟩ := hro ci rfl
  cases hc.symm.trans hq
  have hr := va_runV (As := As) (rest := rest) (g := F0 m pc la ((Value.ref b :: As).reverse ++ rest)) (e := e) (meth := meth) (below := below) (locs := locs) ⟨hx, hb, hml, hown, hts⟩ hM (cwV n hts hg hw hrc hrs hd hR) ⟨hbl, ⟨cellB, h1, h2, h3⟩, hpc⟩ rfl (by simpa using hn) hsz (by simp) (lv_room hcat) d hf
  exact hr
/-- of a private method of a nest mate -/
theorem site_VN (C : FOK Γ cc Ts own nL rm) {Cn : String} {ci : Nat} {T : u_T} {N : Nat} (hc : vwCl[ci]? = some (Cn, T, N)) (d : decode cc pc = .ok (.invokevirtual index, 3)) (hg : GoodIn Ts ws) (hw : ws = Cond.code y bytes maxL ret :: ws') (hrc : rm'.cells = mc) (hrs : rm'.slots = ms) (hN : (own, index, y) ∈ aNm) (hi : Cond.initialized y.cls ∈ Ts) (him : Cond.instanceMethod y ∈ Ts) (hse : Cond.selects Cn y y ∈ Ts)
    (hd : y.cls ≠ "java/lang/invoke/MethodHandle" ∧ y.cls ≠ "java/lang/invoke/VarHandle" ∧ (parseMethodDescriptor y.desc).map (fun d => d.parameters.length) = some n) (hR : rm'.frames + 1 ≤ rm.frames ∧ 8 + (maxL + 11) + rm'.locals ≤ rm.locals) : aSite Γ pc (n + 1) (some ci) mc ms y ws rm' := by
  obtain ⟨p, l, e, R, s, m, args, below, meth, c, Q, G, A, nL'⟩ := Γ
  obtain ⟨hx, hb, hml, hown, hts, hK, hA, rfl, rfl, hB⟩ := C
  intro Pc Qc free H locs k sl la av rest hM hbl hpc hn hsz hcat hf hro
  obtain ⟨b, As, cellB, q, rfl, hq, h1, h2, h3⟩ := hro ci rfl
  cases hc.symm.trans hq
  have hr := va_runVN (As := As) (rest := rest) (g := F0 m pc la ((Value.ref b :: As).reverse ++ rest)) (e := e) (meth := meth) (below := below) (locs := locs) (host := "PaintedDie") ⟨hx, hb, hml, hown, hts⟩ hM ⟨va_cnB n hts hg hw hrc hrs (hB.1.2 _ hN) (hts _ hi) hd hR, hts _ him, hts _ hse⟩ ⟨hbl, ⟨cellB, h1, h2, h3⟩, hpc⟩ rfl (by simpa using hn) hsz (by simp) (lv_room hcat) d hf
  exact hr
/-- a static one -/
theorem site_S (C : FOK Γ cc Ts own nL rm) (d : decode cc pc = .ok (.invokestatic index, 3)) (hg : GoodIn Ts (va_wsS own index y ws)) (hw : ws = Cond.code y bytes maxL ret :: ws') (hrc : rm'.cells = mc) (hrs : rm'.slots = ms)
    (hd : y.cls ≠ "java/lang/invoke/MethodHandle" ∧ y.cls ≠ "java/lang/invoke/VarHandle" ∧ (parseMethodDescriptor y.desc).map (fun d => d.parameters.length) = some n) (hR : rm'.frames + 1 ≤ rm.frames ∧ 8 + (maxL + 11) + rm'.locals ≤ rm.locals) : aSite Γ pc n none mc ms y ws rm' := by
  obtain ⟨p, l, e, R, s, m, args, below, meth, c, Q, G, A, nL'⟩ := Γ
  obtain ⟨hx, hb, hml, hown, hts, hK, hA, rfl, rfl, hB⟩ := C
  intro Pc Qc free H locs k sl la av rest hM hbl hpc hn hsz hcat hf hro
  exact va_runS (As := av) (rest := rest) ⟨hx, hb, hml, hown, hts⟩ hM (va_cwS n hts hg hw hrc hrs hd hR) ⟨hbl, hpc⟩ rfl hn hsz rfl (lv_room hcat) d hf
theorem site_SN (C : FOK Γ cc Ts own nL rm) (d : decode cc pc = .ok (.invokestatic index, 3)) (hg : GoodIn Ts ws) (hw : ws = Cond.code y bytes maxL ret :: ws') (hrc : rm'.cells = mc) (hrs : rm'.slots = ms) (hN : (own, index, y) ∈ aNm) (hi : Cond.initialized y.cls ∈ Ts) (hst : Cond.static y ∈ Ts)
    (hd : y.cls ≠ "java/lang/invoke/MethodHandle" ∧ y.cls ≠ "java/lang/invoke/VarHandle" ∧ (parseMethodDescriptor y.desc).map (fun d => d.parameters.length) = some n) (hR : rm'.frames + 1 ≤ rm.frames ∧ 8 + (maxL + 11) + rm'.locals ≤ rm.locals) : aSite Γ pc n none mc ms y ws rm' := by
  obtain ⟨p, l, e, R, s, m, args, below, meth, c, Q, G, A, nL'⟩ := Γ
  obtain ⟨hx, hb, hml, hown, hts, hK, hA, rfl, rfl, hB⟩ := C
  intro Pc Qc free H locs k sl la av rest hM hbl hpc hn hsz hcat hf hro
  exact va_runSN (As := av) (rest := rest) (host := "PaintedDie") ⟨hx, hb, hml, hown, hts⟩ hM ⟨va_cnB n hts hg hw hrc hrs (hB.1.2 _ hN) (hts _ hi) hd hR, hts _ hst, trivial⟩ ⟨hbl, hpc⟩ rfl hn hsz rfl (lv_room hcat) d hf
end SITES
/-- n values off the stack, the lowest first -/
def tk : Nat → List Value → (List Value → List Value → Prop) → List Value → Prop
  | 0, acc, c, st => c acc st
  | n + 1, acc, c, v :: t => tk n (v :: acc) c t
  | _ + 1, _, _, [] => False
theorem tk_spec : ∀ {n : Nat} {acc : List Value} {c : List Value → List Value → Prop} {st : List Value}, tk n acc c st → ∃ av t, st = av.reverse ++ t ∧ av.length = n ∧ c (av ++ acc) t
  | 0, acc, c, st, h => ⟨[], st, rfl, rfl, h⟩
  | n + 1, acc, c, v :: t, h => by
    obtain ⟨av, t2, rfl, hl, h2⟩ := tk_spec (n := n) (acc := v :: acc) (c := c) (st := t) h
    refine ⟨av ++ [v], t2, by simp, by simp [hl], by simpa using h2⟩
  | _ + 1, _, _, [], h => h.elim
def le4 : List Value → Bool
  | [] => true
  | [_] => true
  | [_, _] => true
  | [_, _, _] => true
  | [_, _, _, _] => true
  | _ => false
theorem cat_le (v : Value) : v.category ≤ 2 := by cases v <;> simp [Value.category]
theorem le4_spec (ad : Nat → Nat) {t : List Value} (h : le4 t = true) : ((t.map (aV ad)).map fun v => v.category).sum ≤ 8 := by
  unfold le4 at h
  split at h
  · simp
  · next a => have := cat_le (aV ad a); simp; omega
  · next a b => have := cat_le (aV ad a); have := cat_le (aV ad b); simp; omega
  · next a b c => have := cat_le (aV ad a); have := cat_le (aV ad b); have := cat_le (aV ad c); simp; omega
  · next a b c d => have := cat_le (aV ad a); have := cat_le (aV ad b); have := cat_le (aV ad c); have := cat_le (aV ad d); simp; omega
  · cases h
/-- the receiver is an object of the class -/
def rcv (ro : Option Nat) (X : List aE) (c : Prop) : List Value → Prop := fun av => match ro with
  | none => c
  | some ci => pR (fun q _ => gx q (eO ci fun _ => c) X) av
theorem rcv_spec {ro : Option Nat} {X : List aE} {c : Prop} {av : List Value} (h : rcv ro X c av) : c ∧ ∀ ci, ro = some ci → ∃ q As fs, av = .ref q :: As ∧ X[q]? = some (.inr (.inl (ci, fs))) := by
  cases ro with
  | none => exact ⟨h, fun ci hc => by cases hc⟩
  | some ci =>
    obtain ⟨q, As, rfl, h7⟩ := pR_spec h
    obtain ⟨e0, h1, h8⟩ := gx_spec h7
    obtain ⟨fs, rfl, h9⟩ := eO_spec h8
    exact ⟨h9, fun ci' hc => by cases hc; exact ⟨q, As, fs, rfl, h1⟩⟩
def oCi (T : aTi) (n : Nat) (ro : Option Nat) (mc ms RC RS nx : Nat) : aO := fun K ad k sl ls st X => tk n [] (fun av t => rcv ro X (ck (le4 t) (ck (Nat.ble (k + mc) RC) (ck (Nat.ble (sl + ms) RS) (T av X (fun r X2 => K nx ad (k + mc) (sl + ms) ls (.int r :: t) X2))))) av) st
def oCl (T : aTl) (n : Nat) (ro : Option Nat) (mc ms RC RS nx : Nat) : aO := fun K ad k sl ls st X => tk n [] (fun av t => rcv ro X (ck (le4 t) (ck (Nat.ble (k + mc) RC) (ck (Nat.ble (sl + ms) RS) (T av X (fun r X2 => K nx ad (k + mc) (sl + ms) ls (.long r :: t) X2))))) av) st
def oCd (T : aTd) (n : Nat) (ro : Option Nat) (mc ms RC RS nx : Nat) : aO := fun K ad k sl ls st X => tk n [] (fun av t => rcv ro X (ck (le4 t) (ck (Nat.ble (k + mc) RC) (ck (Nat.ble (sl + ms) RS) (T av X (fun r X2 => K nx ad (k + mc) (sl + ms) ls (.double r :: t) X2))))) av) st
def oCv (T : aTv) (n : Nat) (ro : Option Nat) (mc ms RC RS nx : Nat) : aO := fun K ad k sl ls st X => tk n [] (fun av t => rcv ro X (ck (le4 t) (ck (Nat.ble (k + mc) RC) (ck (Nat.ble (sl + ms) RS) (T av X (fun X2 => K nx ad (k + mc) (sl + ms) ls t X2))))) av) st
section CALLS
variable {Γ : aΓ} {cc : ByteArray} {Ts : List Cond} {own : String} {nL : Nat} {rm : Room} {pc : Nat} {y : MethodName} {ws : List Cond} {rm' : Room} {n : Nat} {ro : Option Nat}
theorem snd_Ci {T : aTi} (C : FOK Γ cc Ts own nL rm) (hs : aSite Γ pc n ro rm'.cells rm'.slots y ws rm') (hM : aMi y ws rm' T) : Snd Γ pc (oCi T n ro rm'.cells rm'.slots rm.cells rm.slots (pc + 3)) := by
  obtain ⟨p, l, e, R, s, m, args, below, meth, c, Q, G, A, nL'⟩ := Γ
  obtain ⟨hx, hb, hml, hown, hts, hK, hA, rfl, rfl, hB⟩ := C
  intro K hK' ad k sl ls st X ho
  dsimp only [oCi] at ho
  obtain ⟨av, t, rfl, hn, h⟩ := tk_spec ho
  rw [List.append_nil] at h
  obtain ⟨h, hro⟩ := rcv_spec h
  obtain ⟨h4, h⟩ := ck_spec h
  obtain ⟨hc, h⟩ := ck_spec h
  obtain ⟨hsl, h⟩ := ck_spec h
  intro H locs la hP hD hS hl
  have hF := aA_free hD hS hA
  have hrun := hs _ _ _ H locs k sl la (av.map (aV ad)) (t.map (aV ad)) (hM l G ad H.size av X _ h) (aPc_blind _ _ _ _ _) (fun U hU hW => aPc_at hP hK hD hB hU hW) (by rw [List.length_map]; exact hn) hl.1 (le4_spec ad h4) ⟨Nat.le_of_ble_eq_true hc, Nat.le_of_ble_eq_true hsl⟩ (fun ci hci => by
    obtain ⟨q, As, fs, rfl, hq⟩ := hro ci hci
    have hq2 := aX_get G ad X 0 q _ hq
    rw [Nat.zero_add] at hq2
    obtain ⟨qc, h1, -⟩ := hP q _ hq2
    obtain ⟨cellB, g1, g2, g3⟩ := va_recv hK hP h1 hq2
    exact ⟨ad q, As.map (aV ad), cellB, qc, rfl, h1, g1, g2, g3⟩)
  have hst : List.map (aV ad) (av.reverse ++ t) = (av.map (aV ad)).reverse ++ t.map (aV ad) := by rw [List.map_append, List.map_reverse]
  rw [hst]
  refine va_calli hrun hS (fun q _ h9 => hF q h9) hF (fun r u t1 H1 locs1 ht hvm hpost hBk hz hk hS1 => ?_)
  obtain ⟨hP1, hD1⟩ := hBk
  rw [ht] at hP1
  exact hK' _ _ _ _ _ _ _ hpost H1 locs1 la hP1 (hD1.weaken (fun _ _ _ h9 => hF _ h9)) hS1 hl
theorem snd_Cl {T : aTl} (C : FOK Γ cc Ts own nL rm) (hs : aSite Γ pc n ro rm'.cells rm'.slots y ws rm') (hM : aMl y ws rm' T) : Snd Γ pc (oCl T n ro rm'.cells rm'.slots rm.cells rm.slots (pc + 3)) := by
  obtain ⟨p, l, e, R, s, m, args, below, meth, c, Q, G, A, nL'⟩ := Γ
  obtain ⟨hx, hb, hml, hown, hts, hK, hA, rfl, rfl, hB⟩ := C
  intro K hK' ad k sl ls st X ho
  dsimp only [oCl] at ho
  obtain ⟨av, t, rfl, hn, h⟩ := tk_spec ho
  rw [List.append_nil] at h
  obtain ⟨h, hro⟩ := rcv_spec h
  obtain ⟨h4, h⟩ := ck_spec h
  obtain ⟨hc, h⟩ := ck_spec h
  obtain ⟨hsl, h⟩ := ck_spec h
  intro H locs la hP hD hS hl
  have hF := aA_free hD hS hA
  have hrun := hs _ _ _ H locs k sl la (av.map (aV ad)) (t.map (aV ad)) (hM l G ad H.size av X _ h) (aPc_blind _ _ _ _ _) (fun U hU hW => aPc_at hP hK hD hB hU hW) (by rw [List.length_map]; exact hn) hl.1 (le4_spec ad h4) ⟨Nat.le_of_ble_eq_true hc, Nat.le_of_ble_eq_true hsl⟩ (fun ci hci => by
    obtain ⟨q, As, fs, rfl, hq⟩ := hro ci hci
    have hq2 := aX_get G ad X 0 q _ hq
    rw [Nat.zero_add] at hq2
    obtain ⟨qc, h1, -⟩ := hP q _ hq2
    obtain ⟨cellB, g1, g2, g3⟩ := va_recv hK hP h1 hq2
    exact ⟨ad q, As.map (aV ad), cellB, qc, rfl, h1, g1, g2, g3⟩)
  have hst : List.map (aV ad) (av.reverse ++ t) = (av.map (aV ad)).reverse ++ t.map (aV ad) := by rw [List.map_append, List.map_reverse]
  rw [hst]
  refine va_calll hrun hS (fun q _ h9 => hF q h9) hF (fun r u t1 H1 locs1 ht hvm hpost hBk hz hk hS1 => ?_)
  obtain ⟨hP1, hD1⟩ := hBk
  rw [ht] at hP1
  exact hK' _ _ _ _ _ _ _ hpost H1 locs1 la hP1 (hD1.weaken (fun _ _ _ h9 => hF _ h9)) hS1 hl
theorem snd_Cd {T : aTd} (C : FOK Γ cc Ts own nL rm) (hs : aSite Γ pc n ro rm'.cells rm'.slots y ws rm') (hM : aMd y ws rm' T) : Snd Γ pc (oCd T n ro rm'.cells rm'.slots rm.cells rm.slots (pc + 3)) := by
  obtain ⟨p, l, e, R, s, m, args, below, meth, c, Q, G, A, nL'⟩ := Γ
  obtain ⟨hx, hb, hml, hown, hts, hK, hA, rfl, rfl, hB⟩ := C
  intro K hK' ad k sl ls st X ho
  dsimp only [oCd] at ho
  obtain ⟨av, t, rfl, hn, h⟩ := tk_spec ho
  rw [List.append_nil] at h
  obtain ⟨h, hro⟩ := rcv_spec h
  obtain ⟨h4, h⟩ := ck_spec h
  obtain ⟨hc, h⟩ := ck_spec h
  obtain ⟨hsl, h⟩ := ck_spec h
  intro H locs la hP hD hS hl
  have hF := aA_free hD hS hA
  have hrun := hs _ _ _ H locs k sl la (av.map (aV ad)) (t.map (aV ad)) (hM l G ad H.size av X _ h) (aPc_blind _ _ _ _ _) (fun U hU hW => aPc_at hP hK hD hB hU hW) (by rw [List.length_map]; exact hn) hl.1 (le4_spec ad h4) ⟨Nat.le_of_ble_eq_true hc, Nat.le_of_ble_eq_true hsl⟩ (fun ci hci => by
    obtain ⟨q, As, fs, rfl, hq⟩ := hro ci hci
    have hq2 := aX_get G ad X 0 q _ hq
    rw [Nat.zero_add] at hq2
    obtain ⟨qc, h1, -⟩ := hP q _ hq2
    obtain ⟨cellB, g1, g2, g3⟩ := va_recv hK hP h1 hq2
    exact ⟨ad q, As.map (aV ad), cellB, qc, rfl, h1, g1, g2, g3⟩)
  have hst : List.map (aV ad) (av.reverse ++ t) = (av.map (aV ad)).reverse ++ t.map (aV ad) := by rw [List.map_append, List.map_reverse]
  rw [hst]
  refine va_calld hrun hS (fun q _ h9 => hF q h9) hF (fun r u t1 H1 locs1 ht hvm hpost hBk hz hk hS1 => ?_)
  obtain ⟨hP1, hD1⟩ := hBk
  rw [ht] at hP1
  exact hK' _ _ _ _ _ _ _ hpost H1 locs1 la hP1 (hD1.weaken (fun _ _ _ h9 => hF _ h9)) hS1 hl
theorem snd_Cv {T : aTv} (C : FOK Γ cc Ts own nL rm) (hs : aSite Γ pc n ro rm'.cells rm'.slots y ws rm') (hM : aMv y ws rm' T) : Snd Γ pc (oCv T n ro rm'.cells rm'.slots rm.cells rm.slots (pc + 3)) := by
  obtain ⟨p, l, e, R, s, m, args, below, meth, c, Q, G, A, nL'⟩ := Γ
  obtain ⟨hx, hb, hml, hown, hts, hK, hA, rfl, rfl, hB⟩ := C
  intro K hK' ad k sl ls st X ho
  dsimp only [oCv] at ho
  obtain ⟨av, t, rfl, hn, h⟩ := tk_spec ho
  rw [List.append_nil] at h
  obtain ⟨h, hro⟩ := rcv_spec h
  obtain ⟨h4, h⟩ := ck_spec h
  obtain ⟨hc, h⟩ := ck_spec h
  obtain ⟨hsl, h⟩ := ck_spec h
  intro H locs la hP hD hS hl
  have hF := aA_free hD hS hA
  have hrun := hs _ _ _ H locs k sl la (av.map (aV ad)) (t.map (aV ad)) (hM l G ad H.size av X _ h) (aPc_blind _ _ _ _ _) (fun U hU hW => aPc_at hP hK hD hB hU hW) (by rw [List.length_map]; exact hn) hl.1 (le4_spec ad h4) ⟨Nat.le_of_ble_eq_true hc, Nat.le_of_ble_eq_true hsl⟩ (fun ci hci => by
    obtain ⟨q, As, fs, rfl, hq⟩ := hro ci hci
    have hq2 := aX_get G ad X 0 q _ hq
    rw [Nat.zero_add] at hq2
    obtain ⟨qc, h1, -⟩ := hP q _ hq2
    obtain ⟨cellB, g1, g2, g3⟩ := va_recv hK hP h1 hq2
    exact ⟨ad q, As.map (aV ad), cellB, qc, rfl, h1, g1, g2, g3⟩)
  have hst : List.map (aV ad) (av.reverse ++ t) = (av.map (aV ad)).reverse ++ t.map (aV ad) := by rw [List.map_append, List.map_reverse]
  rw [hst]
  refine va_callv hrun hS (fun q _ h9 => hF q h9) hF (fun u t1 H1 locs1 ht hvm hpost hBk hz hk hS1 => ?_)
  obtain ⟨hP1, hD1⟩ := hBk
  rw [ht] at hP1
  exact hK' _ _ _ _ _ _ _ hpost H1 locs1 la hP1 (hD1.weaken (fun _ _ _ h9 => hF _ h9)) hS1 hl
end CALLS
/-! ===== methods that return or throw ===== -/
def aZ (A : Nat → Prop) (U : State) (H : Heap) : Prop := vx_Zq Bundle.tN "UNASSIGNED_STACK" Bundle.steD A U H ∧ vx_Zq Bundle.tN "SUPPRESSED_SENTINEL" Bundle.listD A U H
def aPcX (K : aG) (ad : Nat → Nat) (av : List Value) (X : List aE) (sz : Nat) : Array Value → State → Prop := fun a U => aPc K ad av X sz a U ∧ aZ (aA K ad X sz) U U.heap
abbrev aXp : Type := String → List aE → Prop
def aXC (K : aG) (ad : Nat → Nat) (X : List aE) (sz : Nat) (ex : aXp) : String → State → State → Prop := vx_X (fun u : String × List aE => ex u.1 u.2) (fun E u t => u.1 = E ∧ aBk K ad X sz u.2 t) (aA K ad X sz)
abbrev xTi : Type := List Value → List aE → (Int32 → List aE → Prop) → aXp → Prop
def xMi (y : MethodName) (ws : List Cond) (rm : Room) (T : xTi) : Prop := ∀ (l : Launch) (_ : l.stackTraces = false) (K : aG) (ad : Nat → Nat) (sz : Nat) (av : List Value) (X : List aE) (post : Int32 → List aE → Prop) (ex : aXp), T av X post ex →
  vx_Met l y ws rm (aPcX K ad av X sz) (va_Qi post (aBk K ad X sz) (aA K ad X sz)) (aXC K ad X sz ex) rm.cells rm.slots (aA K ad X sz)
abbrev xTl : Type := List Value → List aE → (Int64 → List aE → Prop) → aXp → Prop
def xMl (y : MethodName) (ws : List Cond) (rm : Room) (T : xTl) : Prop := ∀ (l : Launch) (_ : l.stackTraces = false) (K : aG) (ad : Nat → Nat) (sz : Nat) (av : List Value) (X : List aE) (post : Int64 → List aE → Prop) (ex : aXp), T av X post ex →
  vx_Met l y ws rm (aPcX K ad av X sz) (va_Ql post (aBk K ad X sz) (aA K ad X sz)) (aXC K ad X sz ex) rm.cells rm.slots (aA K ad X sz)
abbrev xTd : Type := List Value → List aE → (UInt64 → List aE → Prop) → aXp → Prop
def xMd (y : MethodName) (ws : List Cond) (rm : Room) (T : xTd) : Prop := ∀ (l : Launch) (_ : l.stackTraces = false) (K : aG) (ad : Nat → Nat) (sz : Nat) (av : List Value) (X : List aE) (post : UInt64 → List aE → Prop) (ex : aXp), T av X post ex →
  vx_Met l y ws rm (aPcX K ad av X sz) (va_Qd post (aBk K ad X sz) (aA K ad X sz)) (aXC K ad X sz ex) rm.cells rm.slots (aA K ad X sz)
abbrev xTv : Type := List Value → List aE → (List aE → Prop) → aXp → Prop
def xMv (y : MethodName) (ws : List Cond) (rm : Room) (T : xTv) : Prop := ∀ (l : Launch) (_ : l.stackTraces = false) (K : aG) (ad : Nat → Nat) (sz : Nat) (av : List Value) (X : List aE) (post : List aE → Prop) (ex : aXp), T av X post ex →
  vx_Met l y ws rm (aPcX K ad av X sz) (va_Qv post (aBk K ad X sz) (aA K ad X sz)) (aXC K ad X sz ex) rm.cells rm.slots (aA K ad X sz)
theorem aPcX_blind (K : aG) (ad : Nat → Nat) (av : List Value) (X : List aE) (sz : Nat) : FrameBlind (aPcX K ad av X sz) := fun a U g mk q =>
  ⟨aPc_blind _ _ _ _ _ a U g mk q.1, q.2.1.moved (u := U) (U := U.calling g mk a) (Vm.Alike.refl U.vm), q.2.2.moved (u := U) (U := U.calling g mk a) (Vm.Alike.refl U.vm)⟩
theorem aZ_at {A B : Nat → Prop} {s U : State} {H : Heap} {locs : List Loc} (h : aZ A s s.heap) (hS : va_S A s.heap H locs) (hAB : ∀ q, B q → A q) (hU : U.heap = H) (hW : s.WarmedH U.vm) : aZ B U U.heap := by
  rw [hU]
  exact ⟨((h.1.kept fun a h1 h2 => hS.2.1 a h1 h2).narrow hAB).moved hW.alike, ((h.2.kept fun a h1 h2 => hS.2.1 a h1 h2).narrow hAB).moved hW.alike⟩
/-- facts of a body that may throw -/
def FOX (Γ : aΓ) : Prop :=
  match Γ with
  | (p, l, e, R, s, m, args, below, meth, c, Q, K, A, nL) => l.stackTraces = false ∧ aZ A s s.heap ∧ meth.locks = false
/-- q, of class E, thrown over this body's frame -/
def FX (Γ : aΓ) (pc : Nat) (E : String) (ad : Nat → Nat) (k n : Nat) (ls : List (Nat × Value)) (X : List aE) : Prop :=
  match Γ with
  | (p, l, e, R, s, m, args, below, meth, c, Q, K, A, nL) => ∀ (H : Heap) (locs : List Loc) (la : Array Slot) (rest : List Value) (ce : Cell) (q : Nat), aP K ad X H → va_D A (aX K ad 0 X) → va_S A s.heap H locs → lv_has la nL (aL ad ls) →
    H[q]? = some ce → ce.vm = .none → s.vm.findClass E = some ce.cls → vx_W p l e R s m args below meth c H locs k n Q (F0 m pc la rest) q
abbrev aXk : Type := String → (Nat → Nat) → Nat → Nat → List (Nat × Value) → List aE → Prop
def xSite (Γ : aΓ) (pc n : Nat) (ro : Option Nat) (mc ms : Nat) (y : MethodName) (ws : List Cond) (rm : Room) : Prop :=
  match Γ with
  | (p, l, e, R, s, m, args, below, meth, c, Q, K, A, nL) => ∀ (Pc : Array Value → State → Prop) (Qc : Array Value → State → Outcome → State → Prop) (XC : String → State → State → Prop) (free : Addr → Prop) (H : Heap) (locs : List Loc) (k sl : Nat) (la : Array Slot) (av rest : List Value),
    vx_Met l y ws rm Pc Qc XC mc ms free → FrameBlind Pc → (∀ U : State, U.heap = H → s.WarmedH U.vm → Pc av.toArray U) → av.length = n → la.size = nL → (rest.map fun v => v.category).sum ≤ 8 → k + mc ≤ R.cells ∧ sl + ms ≤ R.slots →
    (∀ ci, ro = some ci → ∃ (b : Nat) (As : List Value) (cellB : Cell) (q : vw_C), av = .ref b :: As ∧ vwCl[ci]? = some q ∧ H[b]? = some cellB ∧ cellB.vm.isStatics = false ∧ s.vm.findClass q.1 = some cellB.cls) →
    vx_Run p l e R s m args below meth c H locs k sl mc ms (F0 m pc la (av.reverse ++ rest)) rest (Qc av.toArray) XC free
section XSITES
variable {Γ : aΓ} {cc : ByteArray} {Ts : List Cond} {own : String} {nL : Nat} {rm : Room} {pc : Nat}
variable {y : MethodName} {ws ws' : List Cond} {rm' : Room} {bytes : ByteArray} {maxL : Nat} {ret : Option FieldType} {index mc ms n : Nat}
theorem xsite_V (C : FOK Γ cc Ts own nL rm) {Cn : String} {ci : Nat} {T : u_T} {N : Nat} (hc : vwCl[ci]? = some (Cn, T, N)) (d : decode cc pc = .ok (.invokevirtual index, 3)) (hg : GoodIn Ts (wsV own index Cn y ws)) (hw : ws = Cond.code y bytes maxL ret :: ws') (hrc : rm'.cells = mc) (hrs : rm'.slots = ms)
    (hd : y.cls = Cn ∧ y.cls ≠ "java/lang/invoke/MethodHandle" ∧ y.cls ≠ "java/lang/invoke/VarHandle" ∧ (parseMethodDescriptor y.desc).map (fun d => d.parameters.length) = some n) (hR : rm'.frames + 1 ≤ rm.frames ∧ 8 + (maxL + 11) + rm'.locals ≤ rm.locals) : xSite Γ pc (n + 1) (some ci) mc ms y ws rm' := by
  obtain ⟨p, l, e, R, s, m, args, below, meth, c, Q, G, A, nL'⟩ := Γ
  obtain ⟨hx, hb, hml, hown, hts, hK, hA, rfl, rfl, hB⟩ := C
  intro Pc Qc XC free H locs k sl la av rest hM hbl hpc hn hsz hcat hf hro
  obtain ⟨b, As, cellB, q, rfl, hq, h1, h2, h3⟩ := hro ci rfl
  cases hc.symm.trans hq
  have hr := vx_runV (As := As) (rest := rest) (g := F0 m pc la ((Value.ref b :: As).reverse ++ rest)) (e := e) (meth := meth) (below := below) (locs := locs) ⟨hx, hb, hml, hown, hts⟩ hM (cwV n hts hg hw hrc hrs hd hR) ⟨hbl, ⟨cellB, h1, h2, h3⟩, hpc⟩ rfl (by simpa using hn) hsz (by simp) (lv_room hcat) d hf
  exact hr
theorem xsite_S (C : FOK Γ cc Ts own nL rm) (d : decode cc pc = .ok (.invokestatic index, 3)) (hg : GoodIn Ts (va_wsS own index y ws)) (hw : ws = Cond.code y bytes maxL ret :: ws') (hrc : rm'.cells = mc) (hrs : rm'.slots = ms)
    (hd : y.cls ≠ "java/lang/invoke/MethodHandle" ∧ y.cls ≠ "java/lang/invoke/VarHandle" ∧ (parseMethodDescriptor y.desc).map (fun d => d.parameters.length) = some n) (hR : rm'.frames + 1 ≤ rm.frames ∧ 8 + (maxL + 11) + rm'.locals ≤ rm.locals) : xSite Γ pc n none mc ms y ws rm' := by
  obtain ⟨p, l, e, R, s, m, args, below, meth, c, Q, G, A, nL'⟩ := Γ
  obtain ⟨hx, hb, hml, hown, hts, hK, hA, rfl, rfl, hB⟩ := C
  intro Pc Qc XC free H locs k sl la av rest hM hbl hpc hn hsz hcat hf hro
  exact vx_runS (As := av) (rest := rest) ⟨hx, hb, hml, hown, hts⟩ hM (va_cwS n hts hg hw hrc hrs hd hR) ⟨hbl, hpc⟩ rfl hn hsz rfl (lv_room hcat) d hf
end XSITES
section XCALLS
variable {Γ : aΓ} {cc : ByteArray} {Ts : List Cond} {own : String} {nL : Nat} {rm : Room} {pc : Nat} {y : MethodName} {ws : List Cond} {rm' : Room} {n : Nat} {ro : Option Nat}
def oXi (T : xTi) (n : Nat) (ro : Option Nat) (mc ms RC RS nx : Nat) (ex : aXk) : aO := fun K ad k sl ls st X => tk n [] (fun av t => rcv ro X (ck (le4 t) (ck (Nat.ble (k + mc) RC) (ck (Nat.ble (sl + ms) RS) (T av X (fun r X2 => K nx ad (k + mc) (sl + ms) ls (.int r :: t) X2) (fun E X2 => ex E ad (k + mc) (sl + ms) ls X2))))) av) st
theorem snd_Xi {T : xTi} {ex : aXk} (C : FOK Γ cc Ts own nL rm) (CX : FOX Γ) (hs : xSite Γ pc n ro rm'.cells rm'.slots y ws rm') (hM : xMi y ws rm' T) (hex : ∀ E ad k sl ls X, ex E ad k sl ls X → FX Γ pc E ad k sl ls X) : Snd Γ pc (oXi T n ro rm'.cells rm'.slots rm.cells rm.slots (pc + 3) ex) := by
  obtain ⟨p, l, e, R, s, m, args, below, meth, c, Q, G, A, nL'⟩ := Γ
  obtain ⟨hx, hb, hml, hown, hts, hK, hA, rfl, rfl, hB⟩ := C
  intro K hK' ad k sl ls st X ho
  dsimp only [oXi] at ho
  obtain ⟨av, t, rfl, hn, h⟩ := tk_spec ho
  rw [List.append_nil] at h
  obtain ⟨h, hro⟩ := rcv_spec h
  obtain ⟨h4, h⟩ := ck_spec h
  obtain ⟨hc, h⟩ := ck_spec h
  obtain ⟨hsl, h⟩ := ck_spec h
  intro H locs la hP hD hS hl
  have hF := aA_free hD hS hA
  have hrun := hs _ _ _ _ H locs k sl la (av.map (aV ad)) (t.map (aV ad)) (hM l CX.1 G ad H.size av X _ _ h) (aPcX_blind _ _ _ _ _) (fun U hU hW => ⟨aPc_at hP hK hD hB hU hW, by
    have h8 := aZ_at CX.2.1 hS hF hU hW
    exact h8⟩) (by rw [List.length_map]; exact hn) hl.1 (le4_spec ad h4) ⟨Nat.le_of_ble_eq_true hc, Nat.le_of_ble_eq_true hsl⟩ (fun ci hci => by
    obtain ⟨q, As, fs, rfl, hq⟩ := hro ci hci
    have hq2 := aX_get G ad X 0 q _ hq
    rw [Nat.zero_add] at hq2
    obtain ⟨qc, h1, -⟩ := hP q _ hq2
    obtain ⟨cellB, g1, g2, g3⟩ := va_recv hK hP h1 hq2
    exact ⟨ad q, As.map (aV ad), cellB, qc, rfl, h1, g1, g2, g3⟩)
  have hst : List.map (aV ad) (av.reverse ++ t) = (av.map (aV ad)).reverse ++ t.map (aV ad) := by rw [List.map_append, List.map_reverse]
  rw [hst]
  refine vx_calli hrun hS (fun q _ h9 => hF q h9) hF (fun q _ h9 => hF q h9) (fun E ce q9 u t1 H1 locs1 ht hvm hpx hBx hz hk hS1 g1 g2 g3 => ?_) (fun r u t1 H1 locs1 ht hvm hpost hBk hz hk hS1 => ?_)
  · obtain ⟨hE, hP1, hD1⟩ := hBx
    subst hE
    rw [ht] at hP1
    exact hex _ _ _ _ _ _ hpx H1 locs1 la (t.map (aV ad)) ce q9 hP1 (hD1.weaken (fun _ _ _ h9 => hF _ h9)) hS1 hl g1 g2 g3
  · obtain ⟨hP1, hD1⟩ := hBk
    rw [ht] at hP1
    exact hK' _ _ _ _ _ _ _ hpost H1 locs1 la hP1 (hD1.weaken (fun _ _ _ h9 => hF _ h9)) hS1 hl
def oXl (T : xTl) (n : Nat) (ro : Option Nat) (mc ms RC RS nx : Nat) (ex : aXk) : aO := fun K ad k sl ls st X => tk n [] (fun av t => rcv ro X (ck (le4 t) (ck (Nat.ble (k + mc) RC) (ck (Nat.ble (sl + ms) RS) (T av X (fun r X2 => K nx ad (k + mc) (sl + ms) ls (.long r :: t) X2) (fun E X2 => ex E ad (k + mc) (sl + ms) ls X2))))) av) st
theorem snd_Xl {T : xTl} {ex : aXk} (C : FOK Γ cc Ts own nL rm) (CX : FOX Γ) (hs : xSite Γ pc n ro rm'.cells rm'.slots y ws rm') (hM : xMl y ws rm' T) (hex : ∀ E ad k sl ls X, ex E ad k sl ls X → FX Γ pc E ad k sl ls X) : Snd Γ pc (oXl T n ro rm'.cells rm'.slots rm.cells rm.slots (pc + 3) ex) := by
  obtain ⟨p, l, e, R, s, m, args, below, meth, c, Q, G, A, nL'⟩ := Γ
  obtain ⟨hx, hb, hml, hown, hts, hK, hA, rfl, rfl, hB⟩ := C
  intro K hK' ad k sl ls st X ho
  dsimp only [oXl] at ho
  obtain ⟨av, t, rfl, hn, h⟩ := tk_spec ho
  rw [List.append_nil] at h
  obtain ⟨h, hro⟩ := rcv_spec h
  obtain ⟨h4, h⟩ := ck_spec h
  obtain ⟨hc, h⟩ := ck_spec h
  obtain ⟨hsl, h⟩ := ck_spec h
  intro H locs la hP hD hS hl
  have hF := aA_free hD hS hA
  have hrun := hs _ _ _ _ H locs k sl la (av.map (aV ad)) (t.map (aV ad)) (hM l CX.1 G ad H.size av X _ _ h) (aPcX_blind _ _ _ _ _) (fun U hU hW => ⟨aPc_at hP hK hD hB hU hW, by
    have h8 := aZ_at CX.2.1 hS hF hU hW
    exact h8⟩) (by rw [List.length_map]; exact hn) hl.1 (le4_spec ad h4) ⟨Nat.le_of_ble_eq_true hc, Nat.le_of_ble_eq_true hsl⟩ (fun ci hci => by
    obtain ⟨q, As, fs, rfl, hq⟩ := hro ci hci
    have hq2 := aX_get G ad X 0 q _ hq
    rw [Nat.zero_add] at hq2
    obtain ⟨qc, h1, -⟩ := hP q _ hq2
    obtain ⟨cellB, g1, g2, g3⟩ := va_recv hK hP h1 hq2
    exact ⟨ad q, As.map (aV ad), cellB, qc, rfl, h1, g1, g2, g3⟩)
  have hst : List.map (aV ad) (av.reverse ++ t) = (av.map (aV ad)).reverse ++ t.map (aV ad) := by rw [List.map_append, List.map_reverse]
  rw [hst]
  refine vx_calll hrun hS (fun q _ h9 => hF q h9) hF (fun q _ h9 => hF q h9) (fun E ce q9 u t1 H1 locs1 ht hvm hpx hBx hz hk hS1 g1 g2 g3 => ?_) (fun r u t1 H1 locs1 ht hvm hpost hBk hz hk hS1 => ?_)
  · obtain ⟨hE, hP1, hD1⟩ := hBx
    subst hE
    rw [ht] at hP1
    exact hex _ _ _ _ _ _ hpx H1 locs1 la (t.map (aV ad)) ce q9 hP1 (hD1.weaken (fun _ _ _ h9 => hF _ h9)) hS1 hl g1 g2 g3
  · obtain ⟨hP1, hD1⟩ := hBk
    rw [ht] at hP1
    exact hK' _ _ _ _ _ _ _ hpost H1 locs1 la hP1 (hD1.weaken (fun _ _ _ h9 => hF _ h9)) hS1 hl
def oXd (T : xTd) (n : Nat) (ro : Option Nat) (mc ms RC RS nx : Nat) (ex : aXk) : aO := fun K ad k sl ls st X => tk n [] (fun av t => rcv ro X (ck (le4 t) (ck (Nat.ble (k + mc) RC) (ck (Nat.ble (sl + ms) RS) (T av X (fun r X2 => K nx ad (k + mc) (sl + ms) ls (.double r :: t) X2) (fun E X2 => ex E ad (k + mc) (sl + ms) ls X2))))) av) st
theorem snd_Xd {T : xTd} {ex : aXk} (C : FOK Γ cc Ts own nL rm) (CX : FOX Γ) (hs : xSite Γ pc n ro rm'.cells rm'.slots y ws rm') (hM : xMd y ws rm' T) (hex : ∀ E ad k sl ls X, ex E ad k sl ls X → FX Γ pc E ad k sl ls X) : Snd Γ pc (oXd T n ro rm'.cells rm'.slots rm.cells rm.slots (pc + 3) ex) := by
  obtain ⟨p, l, e, R, s, m, args, below, meth, c, Q, G, A, nL'⟩ := Γ
  obtain ⟨hx, hb, hml, hown, hts, hK, hA, rfl, rfl, hB⟩ := C
  intro K hK' ad k sl ls st X ho
  dsimp only [oXd] at ho
  obtain ⟨av, t, rfl, hn, h⟩ := tk_spec ho
  rw [List.append_nil] at h
  obtain ⟨h, hro⟩ := rcv_spec h
  obtain ⟨h4, h⟩ := ck_spec h
  obtain ⟨hc, h⟩ := ck_spec h
  obtain ⟨hsl, h⟩ := ck_spec h
  intro H locs la hP hD hS hl
  have hF := aA_free hD hS hA
  have hrun := hs _ _ _ _ H locs k sl la (av.map (aV ad)) (t.map (aV ad)) (hM l CX.1 G ad H.size av X _ _ h) (aPcX_blind _ _ _ _ _) (fun U hU hW => ⟨aPc_at hP hK hD hB hU hW, by
    have h8 := aZ_at CX.2.1 hS hF hU hW
    exact h8⟩) (by rw [List.length_map]; exact hn) hl.1 (le4_spec ad h4) ⟨Nat.le_of_ble_eq_true hc, Nat.le_of_ble_eq_true hsl⟩ (fun ci hci => by
    obtain ⟨q, As, fs, rfl, hq⟩ := hro ci hci
    have hq2 := aX_get G ad X 0 q _ hq
    rw [Nat.zero_add] at hq2
    obtain ⟨qc, h1, -⟩ := hP q _ hq2
    obtain ⟨cellB, g1, g2, g3⟩ := va_recv hK hP h1 hq2
    exact ⟨ad q, As.map (aV ad), cellB, qc, rfl, h1, g1, g2, g3⟩)
  have hst : List.map (aV ad) (av.reverse ++ t) = (av.map (aV ad)).reverse ++ t.map (aV ad) := by rw [List.map_append, List.map_reverse]
  rw [hst]
  refine vx_calld hrun hS (fun q _ h9 => hF q h9) hF (fun q _ h9 => hF q h9) (fun E ce q9 u t1 H1 locs1 ht hvm hpx hBx hz hk hS1 g1 g2 g3 => ?_) (fun r u t1 H1 locs1 ht hvm hpost hBk hz hk hS1 => ?_)
  · obtain ⟨hE, hP1, hD1⟩ := hBx
    subst hE
    rw [ht] at hP1
    exact hex _ _ _ _ _ _ hpx H1 locs1 la (t.map (aV ad)) ce q9 hP1 (hD1.weaken (fun _ _ _ h9 => hF _ h9)) hS1 hl g1 g2 g3
  · obtain ⟨hP1, hD1⟩ := hBk
    rw [ht] at hP1
    exact hK' _ _ _ _ _ _ _ hpost H1 locs1 la hP1 (hD1.weaken (fun _ _ _ h9 => hF _ h9)) hS1 hl
def oXv (T : xTv) (n : Nat) (ro : Option Nat) (mc ms RC RS nx : Nat) (ex : aXk) : aO := fun K ad k sl ls st X => tk n [] (fun av t => rcv ro X (ck (le4 t) (ck (Nat.ble (k + mc) RC) (ck (Nat.ble (sl + ms) RS) (T av X (fun X2 => K nx ad (k + mc) (sl + ms) ls t X2) (fun E X2 => ex E ad (k + mc) (sl + ms) ls X2))))) av) st
theorem snd_Xv {T : xTv} {ex : aXk} (C : FOK Γ cc Ts own nL rm) (CX : FOX Γ) (hs : xSite Γ pc n ro rm'.cells rm'.slots y ws rm') (hM : xMv y ws rm' T) (hex : ∀ E ad k sl ls X, ex E ad k sl ls X → FX Γ pc E ad k sl ls X) : Snd Γ pc (oXv T n ro rm'.cells rm'.slots rm.cells rm.slots (pc + 3) ex) := by
  obtain ⟨p, l, e, R, s, m, args, below, meth, c, Q, G, A, nL'⟩ := Γ
  obtain ⟨hx, hb, hml, hown, hts, hK, hA, rfl, rfl, hB⟩ := C
  intro K hK' ad k sl ls st X ho
  dsimp only [oXv] at ho
  obtain ⟨av, t, rfl, hn, h⟩ := tk_spec ho
  rw [List.append_nil] at h
  obtain ⟨h, hro⟩ := rcv_spec h
  obtain ⟨h4, h⟩ := ck_spec h
  obtain ⟨hc, h⟩ := ck_spec h
  obtain ⟨hsl, h⟩ := ck_spec h
  intro H locs la hP hD hS hl
  have hF := aA_free hD hS hA
  have hrun := hs _ _ _ _ H locs k sl la (av.map (aV ad)) (t.map (aV ad)) (hM l CX.1 G ad H.size av X _ _ h) (aPcX_blind _ _ _ _ _) (fun U hU hW => ⟨aPc_at hP hK hD hB hU hW, by
    have h8 := aZ_at CX.2.1 hS hF hU hW
    exact h8⟩) (by rw [List.length_map]; exact hn) hl.1 (le4_spec ad h4) ⟨Nat.le_of_ble_eq_true hc, Nat.le_of_ble_eq_true hsl⟩ (fun ci hci => by
    obtain ⟨q, As, fs, rfl, hq⟩ := hro ci hci
    have hq2 := aX_get G ad X 0 q _ hq
    rw [Nat.zero_add] at hq2
    obtain ⟨qc, h1, -⟩ := hP q _ hq2
    obtain ⟨cellB, g1, g2, g3⟩ := va_recv hK hP h1 hq2
    exact ⟨ad q, As.map (aV ad), cellB, qc, rfl, h1, g1, g2, g3⟩)
  have hst : List.map (aV ad) (av.reverse ++ t) = (av.map (aV ad)).reverse ++ t.map (aV ad) := by rw [List.map_append, List.map_reverse]
  rw [hst]
  refine vx_callv hrun hS (fun q _ h9 => hF q h9) hF (fun q _ h9 => hF q h9) (fun E ce q9 u t1 H1 locs1 ht hvm hpx hBx hz hk hS1 g1 g2 g3 => ?_) (fun u t1 H1 locs1 ht hvm hpost hBk hz hk hS1 => ?_)
  · obtain ⟨hE, hP1, hD1⟩ := hBx
    subst hE
    rw [ht] at hP1
    exact hex _ _ _ _ _ _ hpx H1 locs1 la (t.map (aV ad)) ce q9 hP1 (hD1.weaken (fun _ _ _ h9 => hF _ h9)) hS1 hl g1 g2 g3
  · obtain ⟨hP1, hD1⟩ := hBk
    rw [ht] at hP1
    exact hK' _ _ _ _ _ _ _ hpost H1 locs1 la hP1 (hD1.weaken (fun _ _ _ h9 => hF _ h9)) hS1 hl
end XCALLS
/-! ===== the ends of a body ===== -/
/-- what Q is: of a method that returns, or of one that may throw too -/
def isQ (Γ : aΓ) (Qc : Array Value → State → Outcome → State → Prop) (rm : Room) (ad0 : Nat → Nat) (X0 : List aE) : Prop :=
  match Γ with
  | (p, l, e, R, s, m, args, below, meth, c, Q, K, A, nL) => (Q = MQ below Qc args s rm.cells rm.slots (aA K ad0 X0 s.heap.size) ∨ ∃ XC, Q = vx_MQ below Qc XC args s rm.cells rm.slots (aA K ad0 X0 s.heap.size)) ∧ A = aA K ad0 X0 s.heap.size ∧ meth.locks = false
def hsz (Γ : aΓ) : Nat := match Γ with
  | (p, l, e, R, s, m, args, below, meth, c, Q, K, A, nL) => s.heap.size
def gK (Γ : aΓ) : aG := match Γ with
  | (p, l, e, R, s, m, args, below, meth, c, Q, K, A, nL) => K
def rTy (Γ : aΓ) : Option FieldType := match Γ with
  | (p, l, e, R, s, m, args, below, meth, c, Q, K, A, nL) => meth.sig.returnType
section ENDS
variable {Γ : aΓ} {cc : ByteArray} {Ts : List Cond} {own : String} {nL : Nat} {rm : Room} {pc : Nat} {ad0 : Nat → Nat} {X0 : List aE}
def oRi (post : Int32 → List aE → Prop) (ad0 : Nat → Nat) (mc ms : Nat) : aO := fun K ad k sl ls st X => pI (fun r t => ck (List.isEmpty t) (ck (Nat.ble k mc) (ck (Nat.ble sl ms) (ad = ad0 ∧ post r X)))) st
theorem snd_Ri {post : Int32 → List aE → Prop} (C : FOK Γ cc Ts own nL rm) (hQ : isQ Γ (va_Qi post (aBk (gK Γ) ad0 X0 (hsz Γ)) (aA (gK Γ) ad0 X0 (hsz Γ))) rm ad0 X0) (hr : rTy Γ = some .int) (d : decode cc pc = .ok (.ireturn, 1)) : Snd Γ pc (oRi post ad0 rm.cells rm.slots) := by
  obtain ⟨p, l, e, R, s, m, args, below, meth, c, Q, G, A, nL'⟩ := Γ
  obtain ⟨hx, hb, hml, hown, hts, hK, hA, rfl, rfl, hB⟩ := C
  intro K hK' ad k sl ls st X ho
  dsimp only [oRi] at ho
  obtain ⟨r, t, rfl, h6⟩ := pI_spec ho
  obtain ⟨h4, h7⟩ := ck_spec h6
  obtain ⟨hc, h8⟩ := ck_spec h7
  obtain ⟨hsl, h9⟩ := ck_spec h8
  obtain ⟨had, hpost⟩ := h9
  have h5 := List.isEmpty_iff.mp h4
  subst h5
  subst had
  obtain ⟨hQ, hAe, hlocks⟩ := hQ
  subst hAe
  intro H locs la hP hD hS hl
  have key : W p l e R s m args below meth c H locs k sl (MQ below (va_Qi post (aBk G ad X0 s.heap.size) (aA G ad X0 s.heap.size)) args s R.cells R.slots (aA G ad X0 s.heap.size)) (F0 m pc la (List.map (aV ad) [.int r])) := by
    refine W.widen (k := R.cells) (n := R.slots) (Nat.le_of_ble_eq_true hc) (Nat.le_of_ble_eq_true hsl) ?_
    exact W.iret hx hb hr (fun t ht hW => ⟨⟨r, X, rfl, hpost, by rw [ht]; exact hP, hD⟩, hS.F ht⟩) hS.2.2 d hlocks
  rcases hQ with hQ | ⟨XC, hQ⟩
  · exact hQ ▸ key
  · exact hQ ▸ vx_ret key
def oRl (post : Int64 → List aE → Prop) (ad0 : Nat → Nat) (mc ms : Nat) : aO := fun K ad k sl ls st X => pL (fun r t => ck (List.isEmpty t) (ck (Nat.ble k mc) (ck (Nat.ble sl ms) (ad = ad0 ∧ post r X)))) st
theorem snd_Rl {post : Int64 → List aE → Prop} (C : FOK Γ cc Ts own nL rm) (hQ : isQ Γ (va_Ql post (aBk (gK Γ) ad0 X0 (hsz Γ)) (aA (gK Γ) ad0 X0 (hsz Γ))) rm ad0 X0) (hr : rTy Γ = some .long) (d : decode cc pc = .ok (.lreturn, 1)) : Snd Γ pc (oRl post ad0 rm.cells rm.slots) := by
  obtain ⟨p, l, e, R, s, m, args, below, meth, c, Q, G, A, nL'⟩ := Γ
  obtain ⟨hx, hb, hml, hown, hts, hK, hA, rfl, rfl, hB⟩ := C
  intro K hK' ad k sl ls st X ho
  dsimp only [oRl] at ho
  obtain ⟨r, t, rfl, h6⟩ := pL_spec ho
  obtain ⟨h4, h7⟩ := ck_spec h6
  obtain ⟨hc, h8⟩ := ck_spec h7
  obtain ⟨hsl, h9⟩ := ck_spec h8
  obtain ⟨had, hpost⟩ := h9
  have h5 := List.isEmpty_iff.mp h4
  subst h5
  subst had
  obtain ⟨hQ, hAe, hlocks⟩ := hQ
  subst hAe
  intro H locs la hP hD hS hl
  have key : W p l e R s m args below meth c H locs k sl (MQ below (va_Ql post (aBk G ad X0 s.heap.size) (aA G ad X0 s.heap.size)) args s R.cells R.slots (aA G ad X0 s.heap.size)) (F0 m pc la (List.map (aV ad) [.long r])) := by
    refine W.widen (k := R.cells) (n := R.slots) (Nat.le_of_ble_eq_true hc) (Nat.le_of_ble_eq_true hsl) ?_
    exact W.lret hx hb hr (fun t ht hW => ⟨⟨r, X, rfl, hpost, by rw [ht]; exact hP, hD⟩, hS.F ht⟩) hS.2.2 d hlocks
  rcases hQ with hQ | ⟨XC, hQ⟩
  · exact hQ ▸ key
  · exact hQ ▸ vx_ret key
def oRd (post : UInt64 → List aE → Prop) (ad0 : Nat → Nat) (mc ms : Nat) : aO := fun K ad k sl ls st X => pD (fun r t => ck (List.isEmpty t) (ck (Nat.ble k mc) (ck (Nat.ble sl ms) (ad = ad0 ∧ post r X)))) st
theorem snd_Rd {post : UInt64 → List aE → Prop} (C : FOK Γ cc Ts own nL rm) (hQ : isQ Γ (va_Qd post (aBk (gK Γ) ad0 X0 (hsz Γ)) (aA (gK Γ) ad0 X0 (hsz Γ))) rm ad0 X0) (hr : rTy Γ = some .double) (d : decode cc pc = .ok (.dreturn, 1)) : Snd Γ pc (oRd post ad0 rm.cells rm.slots) := by
  obtain ⟨p, l, e, R, s, m, args, below, meth, c, Q, G, A, nL'⟩ := Γ
  obtain ⟨hx, hb, hml, hown, hts, hK, hA, rfl, rfl, hB⟩ := C
  intro K hK' ad k sl ls st X ho
  dsimp only [oRd] at ho
  obtain ⟨r, t, rfl, h6⟩ := pD_spec ho
  obtain ⟨h4, h7⟩ := ck_spec h6
  obtain ⟨hc, h8⟩ := ck_spec h7
  obtain ⟨hsl, h9⟩ := ck_spec h8
  obtain ⟨had, hpost⟩ := h9
  have h5 := List.isEmpty_iff.mp h4
  subst h5
  subst had
  obtain ⟨hQ, hAe, hlocks⟩ := hQ
  subst hAe
  intro H locs la hP hD hS hl
  have key : W p l e R s m args below meth c H locs k sl (MQ below (va_Qd post (aBk G ad X0 s.heap.size) (aA G ad X0 s.heap.size)) args s R.cells R.slots (aA G ad X0 s.heap.size)) (F0 m pc la (List.map (aV ad) [.double r])) := by
    refine W.widen (k := R.cells) (n := R.slots) (Nat.le_of_ble_eq_true hc) (Nat.le_of_ble_eq_true hsl) ?_
    exact W.dret hx hb hr (fun t ht hW => ⟨⟨r, X, rfl, hpost, by rw [ht]; exact hP, hD⟩, hS.F ht⟩) hS.2.2 d hlocks
  rcases hQ with hQ | ⟨XC, hQ⟩
  · exact hQ ▸ key
  · exact hQ ▸ vx_ret key
def oRz (post : Int32 → List aE → Prop) (ad0 : Nat → Nat) (mc ms : Nat) : aO := fun K ad k sl ls st X => pI (fun r t => ck (List.isEmpty t) (ck (Nat.ble k mc) (ck (Nat.ble sl ms) ((r = 0 ∨ r = 1) ∧ ad = ad0 ∧ post r X)))) st
theorem snd_Rz {post : Int32 → List aE → Prop} (C : FOK Γ cc Ts own nL rm) (hQ : isQ Γ (va_Qi post (aBk (gK Γ) ad0 X0 (hsz Γ)) (aA (gK Γ) ad0 X0 (hsz Γ))) rm ad0 X0) (hr : rTy Γ = some .boolean) (d : decode cc pc = .ok (.ireturn, 1)) : Snd Γ pc (oRz post ad0 rm.cells rm.slots) := by
  obtain ⟨p, l, e, R, s, m, args, below, meth, c, Q, G, A, nL'⟩ := Γ
  obtain ⟨hx, hb, hml, hown, hts, hK, hA, rfl, rfl, hB⟩ := C
  intro K hK' ad k sl ls st X ho
  dsimp only [oRz] at ho
  obtain ⟨r, t, rfl, h6⟩ := pI_spec ho
  obtain ⟨h4, h7⟩ := ck_spec h6
  obtain ⟨hc, h8⟩ := ck_spec h7
  obtain ⟨hsl, h9⟩ := ck_spec h8
  obtain ⟨hz, had, hpost⟩ := h9
  have h5 := List.isEmpty_iff.mp h4
  subst h5
  subst had
  obtain ⟨hQ, hAe, hlocks⟩ := hQ
  subst hAe
  intro H locs la hP hD hS hl
  have key : W p l e R s m args below meth c H locs k sl (MQ below (va_Qi post (aBk G ad X0 s.heap.size) (aA G ad X0 s.heap.size)) args s R.cells R.slots (aA G ad X0 s.heap.size)) (F0 m pc la (List.map (aV ad) [.int r])) := by
    refine W.widen (k := R.cells) (n := R.slots) (Nat.le_of_ble_eq_true hc) (Nat.le_of_ble_eq_true hsl) ?_
    exact W.zret hx hb hr (by rcases hz with rfl | rfl <;> decide) (fun t ht hW => ⟨⟨r, X, rfl, hpost, by rw [ht]; exact hP, hD⟩, hS.F ht⟩) hS.2.2 d hlocks
  rcases hQ with hQ | ⟨XC, hQ⟩
  · exact hQ ▸ key
  · exact hQ ▸ vx_ret key
def oRv (post : List aE → Prop) (ad0 : Nat → Nat) (mc ms : Nat) : aO := fun K ad k sl ls st X => ck (List.isEmpty st) (ck (Nat.ble k mc) (ck (Nat.ble sl ms) (ad = ad0 ∧ post X)))
theorem snd_Rv {post : List aE → Prop} (C : FOK Γ cc Ts own nL rm) (hQ : isQ Γ (va_Qv post (aBk (gK Γ) ad0 X0 (hsz Γ)) (aA (gK Γ) ad0 X0 (hsz Γ))) rm ad0 X0) (hr : rTy Γ = none) (d : decode cc pc = .ok (.return_, 1)) : Snd Γ pc (oRv post ad0 rm.cells rm.slots) := by
  obtain ⟨p, l, e, R, s, m, args, below, meth, c, Q, G, A, nL'⟩ := Γ
  obtain ⟨hx, hb, hml, hown, hts, hK, hA, rfl, rfl, hB⟩ := C
  intro K hK' ad k sl ls st X ho
  dsimp only [oRv] at ho
  obtain ⟨h4, h7⟩ := ck_spec ho
  obtain ⟨hc, h8⟩ := ck_spec h7
  obtain ⟨hsl, h9⟩ := ck_spec h8
  obtain ⟨had, hpost⟩ := h9
  have h5 := List.isEmpty_iff.mp h4
  subst h5
  subst had
  obtain ⟨hQ, hAe, hlocks⟩ := hQ
  subst hAe
  intro H locs la hP hD hS hl
  have key : W p l e R s m args below meth c H locs k sl (MQ below (va_Qv post (aBk G ad X0 s.heap.size) (aA G ad X0 s.heap.size)) args s R.cells R.slots (aA G ad X0 s.heap.size)) (F0 m pc la (List.map (aV ad) [])) := by
    refine W.widen (k := R.cells) (n := R.slots) (Nat.le_of_ble_eq_true hc) (Nat.le_of_ble_eq_true hsl) ?_
    exact W.vret hx hb hr (fun t ht hW => ⟨⟨X, rfl, hpost, by rw [ht]; exact hP, hD⟩, hS.F ht⟩) hS.2.2 d hlocks
  rcases hQ with hQ | ⟨XC, hQ⟩
  · exact hQ ▸ key
  · exact hQ ▸ vx_ret key
/-- a throw that leaves the body -/
def isX (Γ : aΓ) (ex : aXp) (rm : Room) (ad0 : Nat → Nat) (X0 : List aE) : Prop :=
  match Γ with
  | (p, l, e, R, s, m, args, below, meth, c, Q, K, A, nL) => (∃ Qc, Q = vx_MQ below Qc (aXC K ad0 X0 s.heap.size ex) args s rm.cells rm.slots (aA K ad0 X0 s.heap.size)) ∧ A = aA K ad0 X0 s.heap.size ∧ (∀ x ∈ c.exceptionTable.toList, False)
def exU (ex : aXp) (ad0 : Nat → Nat) (mc ms : Nat) : aXk := fun E ad k sl _ X => ck (Nat.ble k mc) (ck (Nat.ble sl ms) (ad = ad0 ∧ ex E X))
theorem exU_FX {ex : aXp} (C : FOK Γ cc Ts own nL rm) (CX : FOX Γ) (hQ : isX Γ ex rm ad0 X0) (E : String) (ad : Nat → Nat) (k sl : Nat) (ls : List (Nat × Value)) (X : List aE) (h : exU ex ad0 rm.cells rm.slots E ad k sl ls X) : FX Γ pc E ad k sl ls X := by
  obtain ⟨p, l, e, R, s, m, args, below, meth, c, Q, G, A, nL'⟩ := Γ
  obtain ⟨hx, hb, hml, hown, hts, hK, hA, rfl, rfl, hB⟩ := C
  obtain ⟨hc, h⟩ := ck_spec h
  obtain ⟨hsl, h⟩ := ck_spec h
  obtain ⟨rfl, hpost⟩ := h
  obtain ⟨⟨Qc, hQ⟩, hAe, hno⟩ := hQ
  subst hAe
  subst hQ
  intro H locs la rest ce q hP hD hS hl g1 g2 g3
  exact vx_out (fun x hx => (hno x hx).elim) CX.2.2 g1 g2 g3 (fun t ht hv => ⟨(E, X), hpost, ⟨rfl, by rw [ht]; exact hP, hD⟩, hS.F ht⟩) hS.2.2 (Nat.le_of_ble_eq_true hc) (Nat.le_of_ble_eq_true hsl)
/-- throw new E("text") -/
def oTh (E : String) (ex : aXp) (ad0 : Nat → Nat) (mc ms : Nat) : aO := fun K ad k sl ls st X => ck (le4 st) (ck (Nat.ble (k + 1) mc) (ck (Nat.ble (sl + 6) ms) (ad = ad0 ∧ ex E X)))
theorem snd_Th {ex : aXp} {E text : String} {names : List String} {ik is ic : Nat} (C : FOK Γ cc Ts own nL rm) (CX : FOX Γ) (hQ : isX Γ ex rm ad0 X0) (hcls : Bundle.fit E = true) (hnames : ∀ n ∈ names, Bundle.fit n = true)
    (hk : Cond.classLink own ik E ∈ Ts) (hini : Cond.initialized E ∈ Ts) (hstr : (own, is, text) ∈ aSt) (hat : ∀ w ∈ vx_atS own ic E names, w ∈ Ts) (hgood : ∀ w ∈ Cond.classLink own ik E :: Cond.initialized E :: vx_atS own ic E names, vx_ot w = true)
    (d0 : decode cc pc = .ok (.new ik, 3)) (d3 : decode cc (pc + 3) = .ok (.dup, 1)) (d4 : decode cc (pc + 4) = .ok (.ldc is, 2)) (d6 : decode cc (pc + 6) = .ok (.invokespecial ic, 3)) (d9 : decode cc (pc + 9) = .ok (.athrow, 1))
    (hRf : names.length + 3 < rm.frames) (hRl : 8 + (13 * (names.length + 1) + 43) ≤ rm.locals) : Snd Γ pc (oTh E ex ad0 rm.cells rm.slots) := by
  obtain ⟨p, l, e, R, s, m, args, below, meth, c, Q, G, A, nL'⟩ := Γ
  obtain ⟨hx, hb, hml, hown, hts, hK, hA, rfl, rfl, hB⟩ := C
  intro K hK' ad k sl ls st X ho
  dsimp only [oTh] at ho
  obtain ⟨h4, h⟩ := ck_spec ho
  obtain ⟨hc, h⟩ := ck_spec h
  obtain ⟨hsl, h⟩ := ck_spec h
  obtain ⟨rfl, hpost⟩ := h
  obtain ⟨⟨Qc, hQ⟩, hAe, hno⟩ := hQ
  subst hAe
  subst hQ
  obtain ⟨sa, hsa⟩ := hB.2 _ hstr
  intro H locs la hP hD hS hl
  have h5 := le4_spec ad h4
  exact vx_throwS hx hb CX.1 hown hcls hnames (hts _ hk) (hts _ hini) hsa (fun w hw => hts w (hat w hw)) hgood CX.2.1.1 CX.2.1.2 hS (hl.1.trans hml.symm) d0 d3 d4 d6 d9 (fun x hx => (hno x hx).elim) hRf (by omega) (Nat.le_of_ble_eq_true hc) (Nat.le_of_ble_eq_true hsl) CX.2.2
    (fun t hv hz hq => ⟨(E, X), hpost, ⟨rfl, hP.kept (fun k9 q9 h9 => hq q9.1 (hP k9 q9 h9).lt), hD⟩, ⟨Nat.le_trans hS.1 hz, fun q h1 h2 => (hq q (Nat.lt_of_lt_of_le h1 hS.1)).trans (hS.2.1 q h1 h2)⟩⟩) hS.2.2 (Nat.le_of_ble_eq_true hc) (Nat.le_of_ble_eq_true hsl)
end ENDS
end
