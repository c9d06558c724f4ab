/-! THE CLAIM OUT OF ONE WALK OF THE LAW'S BODY. Your part is whole_start (and what it stands on); all else here is the same for every law, but numbers. -/
def R_law : String := "PaintedDieLaw"
def lw_P (b : Addr) (xs : List Int32) (args : Array Value) (s : State) : Prop := args = #[.ref b] ∧ s.IntsAt b xs ∧ xs.length ≤ 260 ∧ (Jvm.Cond.and given_1 narrow_1).before args s = true
/-- what a walk over the start with the record d0 says of its end, said of the start itself -/
theorem lw_closed {s t : State} {o : Outcome} {d0 : Drawn} {L : List Loc} {k n : Nat} (hd0 : s.drawn.sameBut d0 lw_cs) (hv : ∃ v, o = .returned v) (hW : (s.setDrawn d0).WarmedH t.vm) (hs : (s.setDrawn d0).sameButNew ({ t with vm := s.vm } : State) L k n) : State.butDraws s t lw_cs (fun t1 => Framed s o t1 L k n) := by
  have h2 : t.drawn = d0 := congrArg State.drawn hs.1
  refine ⟨⟨hv, hW, State.sameButNew.setDrawn hs s.drawn⟩, ?_, by decide⟩
  rw [h2]
  exact hd0
def lw_Q (_ : Array Value) (s : State) (o : Outcome) (t : State) : Prop := o = .returned (some (.int 1)) ∧ State.butDraws s t lw_cs (fun t1 => Framed s o t1 [] 600130 7301080)
def lw_Z (below : List Frame) (a : Array Value) (s : State) : State → Prop := fun t => ∃ o, t.status = .running ∧ Ended t below o ∧ lw_Q a s o t
/-- the law's own end, with 1 on the stack, nothing written that was there before, its room as the claim has it; d0: the record of draws at this point (at the entry s.drawn: begin with 'refine W.base ?_' and 'have hd0 := Drawn.sameBut.refl s.drawn lw_cs') -/
theorem lw_ret {p : Program} {l : Launch} {e : Env} {s : State} {m : MethodId} {below : List Frame} {meth : Method} {c : Code} {b : Nat} {d0 : Drawn} (hd0 : s.drawn.sameBut d0 lw_cs) (hx : p.tables.exec = Jvm.exec) (hb : c.code = code) (hr : meth.sig.returnType = ret) (hlocks : meth.locks = false) {pc : Nat} {H : Heap} {ls : Array Slot} (hdg : decode code pc = .ok (.ireturn, 1)) : W p l e room_1 (s.setDrawn d0) m #[Value.ref b] below meth c H [] 600130 7301080 (lw_Z below #[Value.ref b] s) (F0 m pc ls [.int 1]) := by
  intro T hT X
  obtain ⟨fs, hret, hrun, hended, hW, hframe⟩ := X.leave (v := some (.int 1)) (hlocks := hlocks) (fun h => by rw [hr] at h; cases h)
  have hmeth' : T.vm.method? m = some meth := X.method'
  refine ⟨T.setFrames fs, ?_, .returned (some (.int 1)), hrun, hended, rfl, lw_closed hd0 ⟨_, rfl⟩ hW hframe⟩
  jvm_step X.here [X.here.top, hx, hb, hdg, hmeth', hr, ret, narrow_b1]
  (try refine ⟨rfl, ?_⟩); (try refine ⟨rfl, ?_⟩)
  first | (intro acts; rw [hret _ acts rfl rfl rfl]) | rw [hret _ _ rfl rfl rfl]
  exact Steps.refl _
/-- what holds at the law's entry: the machine, the code, the tables' words (any of lw_tbl by 'hts w (by decide +kernel)'), the script of L ints xs at the cell b, what the Statement gives of the start (any of its parts by flat_of_before) -/
def lw_At (p : Program) (s : State) (m : MethodId) (meth : Method) (c : Code) (b L : Nat) (xs : Nat → Int32) : Prop :=
  p.tables.exec = Jvm.exec ∧ c.code = code ∧ meth.sig.returnType = ret ∧ c.maxLocals = 27 ∧ s.vm.findClass R_law = some m.cls ∧ (∀ w ∈ lw_tbl, w.before #[Value.ref b] s = true) ∧ va_X b L xs s s.heap ∧ b < s.heap.size ∧ meth.locks = false ∧ (Jvm.Cond.and given_1 narrow_1).before #[Value.ref b] s = true
/-! ===== the law's body: its ops ===== -/
def isLQ (Γ : aΓ) : Prop := match Γ with
  | (p, l, e, R, s, m, args, below, meth, c, Q, K, A, nL) => ∃ b, args = #[.ref b] ∧ Q = lw_Z below #[.ref b] s ∧ (∀ q, A q → s.heap.size ≤ q) ∧ meth.sig.returnType = ret ∧ meth.locks = false
def oLr : aO := fun K ad k n ls st X => pI (fun r t => ck (List.isEmpty t) (r = 1 ∧ k ≤ 600130 ∧ n ≤ 7301080)) st
section LAW
variable {Γ : aΓ} {cc : ByteArray} {Ts : List Cond} {own : String} {nL : Nat} {rm : Room} {pc : Nat}
theorem snd_Lr (C : FOK Γ code Ts own nL room_1) (hQ : isLQ Γ) (d : decode code pc = .ok (.ireturn, 1)) : Snd Γ pc oLr := by
  obtain ⟨p, l, e, R, s, m, args, below, meth, c, Q, G, A, nL'⟩ := Γ
  obtain ⟨hx, hb, hml, hown, hts, hK, hA, rfl, rfl, hB⟩ := C
  obtain ⟨b, rfl, rfl, hA2, hr, hlocks⟩ := hQ
  intro K hK' ad k n ls st X ho
  dsimp only [oLr] at ho
  obtain ⟨r, t, rfl, h1⟩ := pI_spec ho
  obtain ⟨h2, rfl, hk, hn⟩ := ck_spec h1
  have h3 := List.isEmpty_iff.mp h2
  subst h3
  intro H locs la hP hD hS hl
  refine va_forget (fun q hq => hA2 _ (hS.2.2 q hq)) ?_
  refine W.widen (k := 600130) (n := 7301080) hk hn ?_
  exact lw_ret (d0 := s.drawn) (Drawn.sameBut.refl s.drawn lw_cs) hx hb hr hlocks d
variable {y : MethodName} {ws ws' : List Cond} {rm' : Room} {n ci : Nat} {bytes : ByteArray} {maxL : Nat} {ret0 : Option FieldType} {index mc ms : Nat} {hh : List (Nat × Nat × Nat × Nat)}
theorem site_SW (C : FOK Γ cc Ts own nL rm) (d : decode cc pc = .ok (.invokestatic index, 3)) (hg : GoodIn Ts (va_wsS own index y ws)) (hw : ws = Cond.codeWith y bytes maxL ret0 hh :: ws') (hrc : rm'.cells = mc) (hrs : rm'.slots = ms)
    (hd : y.cls ≠ "java/lang/invoke/MethodHandle" ∧ y.cls ≠ "java/lang/invoke/VarHandle" ∧ (parseMethodDescriptor y.desc).map (fun d => d.parameters.length) = some n) (hR : rm'.frames + 1 ≤ rm.frames ∧ 8 + (maxL + 11) + rm'.locals ≤ rm.locals) : aSite Γ pc n none mc ms y ws rm' := by
  obtain ⟨p, l, e, R, s, m, args, below, meth, c, Q, G, A, nL'⟩ := Γ
  obtain ⟨hx, hb, hml, hown, hts, hK, hA, rfl, rfl, hB⟩ := C
  intro Pc Qc free H locs k sl la av rest hM hbl hpc hn hsz hcat hf hro
  exact vx_runSW (As := av) (rest := rest) ⟨hx, hb, hml, hown, hts⟩ hM (vx_cwSW n hts hg hw hrc hrs hd hR) ⟨hbl, hpc⟩ rfl hn hsz rfl (lv_room hcat) d hf
end LAW
theorem inL_law_X3 : ∀ w ∈ wsX30, w ∈ wsL_law := inlX3
def tbL_law (ad0 : Nat → Nat) : List (Nat × aO) := [(0, oNO 2 8 [.null, .null, .null, .null, .int 0, .int 0, .int 0, .int 0] 600130 7301080 3),
  (3, oDup 4),
  (4, oNc 0 tX3_init 1 (some 2) 8 3647 600130 7301080 7),
  (7, oAS 1 8),
  (8, oAL 1 9),
  (9, oAL 0 10),
  (10, oQr ad0 0 NL_build tL_build 2 none 80 500 600130 7301080 13),
  (13, oAS 2 14),
  (14, oAL 2 15),
  (15, oIfnn 20),
  (18, oC (0) 19),
  (19, oLr),
  (20, oC (0) 21),
  (21, oIS 3 22),
  (22, oIL 3 23),
  (23, oC (10) 25),
  (25, oIc_ge 969 28),
  (28, oAL 0 29),
  (29, oIL 3 30),
  (30, oBs ad0 tL_cell 2 0 0 600130 7301080 33),
  (33, oC (2) 34),
  (34, oIshr 35),
  (35, oC (53) 37),
  (37, oIL 3 38),
  (38, oImul 39),
  (39, oIadd 40),
  (40, oIS 4 42),
  (42, oC (0) 43),
  (43, oIS 5 45),
  (45, oIL 5 47),
  (47, oC (3) 48),
  (48, oIc_ge 80 51),
  (51, oAL 1 52),
  (52, oAL 2 53),
  (53, oIL 4 55),
  (55, oC (3) 56),
  (56, oIL 5 58),
  (58, oImul 59),
  (59, oIshr 60),
  (60, oC (29) 62),
  (62, oIL 5 64),
  (64, oImul 65),
  (65, oIadd 66),
  (66, oQi ad0 0 NL_act tL_act 3 none 60 400 600130 7301080 69),
  (69, oIf_ne 74 72),
  (72, oC (0) 73),
  (73, oLr),
  (74, oInc 5 1 77),
  (77, oGo 45),
  (80, oAL 1 81),
  (81, oHl tX3_digest 1 2 0 0 600130 7301080 84),
  (84, oLS 5 86),
  (86, oAL 1 87),
  (87, oHi tX3_width 1 2 0 0 600130 7301080 90),
  (90, oIS 7 92),
  (92, oAL 1 93),
  (93, oHi tX3_height 1 2 0 0 600130 7301080 96),
  (96, oIS 8 98),
  (98, oAL 1 99),
  (99, oHi tX3_column 1 2 0 0 600130 7301080 102),
  (102, oIS 9 104),
  (104, oAL 1 105),
  (105, oHi tX3_row 1 2 0 0 600130 7301080 108),
  (108, oIS 10 110),
  (110, oIL 9 112),
  (112, oIf_lt 191 115),
  (115, oIL 10 117),
  (117, oIf_lt 191 120),
  (120, oIL 9 122),
  (122, oIL 7 124),
  (124, oIc_ge 191 127),
  (127, oIL 10 129),
  (129, oIL 8 131),
  (131, oIc_ge 191 134),
  (134, oAL 1 135),
  (135, oIL 9 137),
  (137, oIL 10 139),
  (139, oGXi tX3_isWall 3 2 1 6 600130 7301080 142 exN),
  (142, oIf_ne 191 145),
  (145, oAL 1 146),
  (146, oHi tX3_top 1 2 0 0 600130 7301080 149),
  (149, oAL 1 150),
  (150, oHi tX3_bottom 1 2 0 0 600130 7301080 153),
  (153, oIadd 154),
  (154, oC (7) 156),
  (156, oIc_ne 191 159),
  (159, oAL 1 160),
  (160, oC (0) 161),
  (161, oGXi tX3_faceTo 2 2 1 6 600130 7301080 164 exN),
  (164, oAL 1 165),
  (165, oC (2) 166),
  (166, oGXi tX3_faceTo 2 2 1 6 600130 7301080 169 exN),
  (169, oIadd 170),
  (170, oC (7) 172),
  (172, oIc_ne 191 175),
  (175, oAL 1 176),
  (176, oC (1) 177),
  (177, oGXi tX3_faceTo 2 2 1 6 600130 7301080 180 exN),
  (180, oAL 1 181),
  (181, oC (3) 182),
  (182, oGXi tX3_faceTo 2 2 1 6 600130 7301080 185 exN),
  (185, oIadd 186),
  (186, oC (7) 188),
  (188, oIc_eq 193 191),
  (191, oC (0) 192),
  (192, oLr),
  (193, oC (1) 194),
  (194, oAL 1 195),
  (195, oHi tX3_top 1 2 0 0 600130 7301080 198),
  (198, oIshl 199),
  (199, oC (1) 200),
  (200, oAL 1 201),
  (201, oHi tX3_bottom 1 2 0 0 600130 7301080 204),
  (204, oIshl 205),
  (205, oIor 206),
  (206, oIS 11 208),
  (208, oC (0) 209),
  (209, oIS 12 211),
  (211, oIL 12 213),
  (213, oC (4) 214),
  (214, oIc_ge 236 217),
  (217, oIL 11 219),
  (219, oC (1) 220),
  (220, oAL 1 221),
  (221, oIL 12 223),
  (223, oGXi tX3_faceTo 2 2 1 6 600130 7301080 226 exN),
  (226, oIshl 227),
  (227, oIor 228),
  (228, oIS 11 230),
  (230, oInc 12 1 233),
  (233, oGo 211),
  (236, oC (0) 237),
  (237, oIS 12 239),
  (239, oC (0) 240),
  (240, oIS 13 242),
  (242, oIL 13 244),
  (244, oC (10) 246),
  (246, oIc_ge 266 249),
  (249, oIL 12 251),
  (251, oAL 1 252),
  (252, oIL 13 254),
  (254, oGXi tX3_cellsWith 2 2 1 6 600130 7301080 257 exN),
  (257, oIadd 258),
  (258, oIS 12 260),
  (260, oInc 13 1 263),
  (263, oGo 242),
  (266, oC (0) 267),
  (267, oIS 13 269),
  (269, oC (0) 270),
  (270, oIS 14 272),
  (272, oIL 14 274),
  (274, oIL 7 276),
  (276, oIc_ge 322 279),
  (279, oC (0) 280),
  (280, oIS 15 282),
  (282, oIL 15 284),
  (284, oIL 8 286),
  (286, oIc_ge 316 289),
  (289, oIL 13 291),
  (291, oAL 1 292),
  (292, oIL 14 294),
  (294, oIL 15 296),
  (296, oGXi tX3_isWall 3 2 1 6 600130 7301080 299 exN),
  (299, oIf_eq 306 302),
  (302, oC (1) 303),
  (303, oGo 307),
  (306, oC (0) 307),
  (307, oIadd 308),
  (308, oIS 13 310),
  (310, oInc 15 1 313),
  (313, oGo 282),
  (316, oInc 14 1 319),
  (319, oGo 272),
  (322, oIL 11 324),
  (324, oC (126) 326),
  (326, oIc_ne 379 329),
  (329, oIL 12 331),
  (331, oIL 7 333),
  (333, oIL 8 335),
  (335, oImul 336),
  (336, oIc_ne 379 339),
  (339, oIL 13 341),
  (341, oAL 1 342),
  (342, oHi tX3_walls 1 2 0 0 600130 7301080 345),
  (345, oIc_ne 379 348),
  (348, oAL 1 349),
  (349, oHi tX3_prints 1 2 0 0 600130 7301080 352),
  (352, oAL 1 353),
  (353, oHi tX3_rolls 1 2 0 0 600130 7301080 356),
  (356, oIc_gt 379 359),
  (359, oAL 1 360),
  (360, oIL 9 362),
  (362, oIL 10 364),
  (364, oGXi tX3_fewestRolls 3 2 1 6 600130 7301080 367 exN),
  (367, oIf_ne 379 370),
  (370, oAL 1 371),
  (371, oC (0) 372),
  (372, oGXi tX3_cellsBehind 2 2 1 6 600130 7301080 375 exN),
  (375, oC (1) 376),
  (376, oIc_eq 381 379),
  (379, oC (0) 380),
  (380, oLr),
  (381, oC (0) 382),
  (382, oIS 14 384),
  (384, oAL 1 385),
  (385, oHi tX3_waysToLie 1 2 0 0 600130 7301080 388),
  (388, oIS 15 390),
  (390, oC (0) 391),
  (391, oIS 16 393),
  (393, oIL 16 395),
  (395, oIL 7 397),
  (397, oIc_ge 546 400),
  (400, oC (0) 401),
  (401, oIS 17 403),
  (403, oIL 17 405),
  (405, oIL 8 407),
  (407, oIc_ge 540 410),
  (410, oAL 1 411),
  (411, oIL 16 413),
  (413, oIL 17 415),
  (415, oGXi tX3_fewestRolls 3 2 1 6 600130 7301080 418 exN),
  (418, oIS 18 420),
  (420, oAL 1 421),
  (421, oIL 16 423),
  (423, oIL 17 425),
  (425, oGXi tX3_topsAt 3 2 1 6 600130 7301080 428 exN),
  (428, oIS 19 430),
  (430, oIL 16 432),
  (432, oIL 9 434),
  (434, oIsub 435),
  (435, oAbs 438 600130 7301080),
  (438, oIL 17 440),
  (440, oIL 10 442),
  (442, oIsub 443),
  (443, oAbs 446 600130 7301080),
  (446, oIadd 447),
  (447, oIS 20 449),
  (449, oIL 18 451),
  (451, oIf_ge 458 454),
  (454, oC (1) 455),
  (455, oGo 459),
  (458, oC (0) 459),
  (459, oIL 19 461),
  (461, oIf_ne 468 464),
  (464, oC (1) 465),
  (465, oGo 469),
  (468, oC (0) 469),
  (469, oIc_ne 517 472),
  (472, oIL 19 474),
  (474, oC (6) 476),
  (476, oIc_gt 517 479),
  (479, oAL 1 480),
  (480, oIL 16 482),
  (482, oIL 17 484),
  (484, oGXi tX3_isWall 3 2 1 6 600130 7301080 487 exN),
  (487, oIf_eq 495 490),
  (490, oIL 18 492),
  (492, oIf_ge 517 495),
  (495, oIL 18 497),
  (497, oIf_lt 519 500),
  (500, oIL 18 502),
  (502, oIL 20 504),
  (504, oIc_lt 517 507),
  (507, oIL 18 509),
  (509, oIL 20 511),
  (511, oIsub 512),
  (512, oC (2) 513),
  (513, oIrem 514),
  (514, oIf_eq 519 517),
  (517, oC (0) 518),
  (518, oLr),
  (519, oIL 14 521),
  (521, oIL 18 523),
  (523, oIf_ge 530 526),
  (526, oC (0) 527),
  (527, oGo 531),
  (530, oC (1) 531),
  (531, oIadd 532),
  (532, oIS 14 534),
  (534, oInc 17 1 537),
  (537, oGo 403),
  (540, oInc 16 1 543),
  (543, oGo 393),
  (546, oIL 14 548),
  (548, oAL 1 549),
  (549, oHi tX3_cellsWithinReach 1 2 0 0 600130 7301080 552),
  (552, oIc_ne 572 555),
  (555, oIL 15 557),
  (557, oIL 14 559),
  (559, oIc_lt 572 562),
  (562, oIL 15 564),
  (564, oC (12) 566),
  (566, oIL 14 568),
  (568, oImul 569),
  (569, oIc_le 574 572),
  (572, oC (0) 573),
  (573, oLr),
  (574, oC (0) 575),
  (575, oIS 16 577),
  (577, oIL 16 579),
  (579, oC (4) 580),
  (580, oIc_ge 626 583),
  (583, oAL 1 584),
  (584, oIL 16 586),
  (586, oGXi tX3_canRoll 2 2 1 6 600130 7301080 589 exN),
  (589, oIf_eq 620 592),
  (592, oAL 1 593),
  (593, oIL 9 595),
  (595, oGs ad0 1001 598),
  (598, oIL 16 600),
  (600, oSi ad0 1001 acr 601),
  (601, oIadd 602),
  (602, oIL 10 604),
  (604, oGs ad0 1002 607),
  (607, oIL 16 609),
  (609, oSi ad0 1002 dwn 610),
  (610, oIadd 611),
  (611, oGXi tX3_fewestRolls 3 2 1 6 600130 7301080 614 exN),
  (614, oC (1) 615),
  (615, oIc_eq 620 618),
  (618, oC (0) 619),
  (619, oLr),
  (620, oInc 16 1 623),
  (623, oGo 577),
  (626, oIL 4 628),
  (628, oC (4) 629),
  (629, oIshr 630),
  (630, oIL 7 632),
  (632, oBi tL_below 2 0 0 600130 7301080 635),
  (635, oIS 16 637),
  (637, oIL 4 639),
  (639, oC (6) 641),
  (641, oIshr 642),
  (642, oIL 8 644),
  (644, oBi tL_below 2 0 0 600130 7301080 647),
  (647, oIS 17 649),
  (649, oC (1) 650),
  (650, oIL 4 652),
  (652, oC (5) 653),
  (653, oIshr 654),
  (654, oC (6) 656),
  (656, oBi tL_below 2 0 0 600130 7301080 659),
  (659, oIadd 660),
  (660, oIS 18 662),
  (662, oAL 1 663),
  (663, oIL 16 665),
  (665, oIL 17 667),
  (667, oIL 18 669),
  (669, oGXi tX3_fewestRollsWithTop 4 2 2 12 600130 7301080 672 exN),
  (672, oIS 19 674),
  (674, oAL 1 675),
  (675, oIL 16 677),
  (677, oIL 17 679),
  (679, oIL 18 681),
  (681, oGXi tX3_firstRoll 4 2 2 12 600130 7301080 684 exN),
  (684, oIS 20 686),
  (686, oIL 19 688),
  (688, oIf_lt 704 691),
  (691, oIL 19 693),
  (693, oAL 1 694),
  (694, oIL 16 696),
  (696, oIL 17 698),
  (698, oGXi tX3_fewestRolls 3 2 1 6 600130 7301080 701 exN),
  (701, oIc_lt 737 704),
  (704, oIL 20 706),
  (706, oIf_lt 713 709),
  (709, oC (1) 710),
  (710, oGo 714),
  (713, oC (0) 714),
  (714, oIL 19 716),
  (716, oIf_le 723 719),
  (719, oC (1) 720),
  (720, oGo 724),
  (723, oC (0) 724),
  (724, oIc_ne 737 727),
  (727, oAL 1 728),
  (728, oHl tX3_digest 1 2 0 0 600130 7301080 731),
  (731, oLL 5 733),
  (733, oLcmp 734),
  (734, oIf_eq 739 737),
  (737, oC (0) 738),
  (738, oLr),
  (739, oIL 20 741),
  (741, oIf_lt 799 744),
  (744, oAL 1 745),
  (745, oHi tX3_rolls 1 2 0 0 600130 7301080 748),
  (748, oIS 21 750),
  (750, oAL 1 751),
  (751, oIL 20 753),
  (753, oGXi tX3_canRoll 2 2 1 6 600130 7301080 756 exN),
  (756, oIf_eq 797 759),
  (759, oAL 1 760),
  (760, oAL 2 761),
  (761, oIL 20 763),
  (763, oQi ad0 0 NL_goes tL_goes 3 none 12 72 600130 7301080 766),
  (766, oIf_eq 797 769),
  (769, oAL 1 770),
  (770, oIL 16 772),
  (772, oIL 17 774),
  (774, oIL 18 776),
  (776, oGXi tX3_fewestRollsWithTop 4 2 2 12 600130 7301080 779 exN),
  (779, oIL 19 781),
  (781, oC (1) 782),
  (782, oIsub 783),
  (783, oIc_ne 797 786),
  (786, oAL 1 787),
  (787, oHi tX3_rolls 1 2 0 0 600130 7301080 790),
  (790, oIL 21 792),
  (792, oC (1) 793),
  (793, oIadd 794),
  (794, oIc_eq 799 797),
  (797, oC (0) 798),
  (798, oLr),
  (799, oIL 4 801),
  (801, oC (7) 803),
  (803, oIshr 804),
  (804, oC (4) 805),
  (805, oBi tL_below 2 0 0 600130 7301080 808),
  (808, oIS 21 810),
  (810, oAL 1 811),
  (811, oIL 21 813),
  (813, oGXi tX3_canRoll 2 2 1 6 600130 7301080 816 exN),
  (816, oIf_ne 822 819),
  (819, oGo 963),
  (822, oAL 1 823),
  (823, oHi tX3_top 1 2 0 0 600130 7301080 826),
  (826, oIS 22 828),
  (828, oAL 1 829),
  (829, oC (0) 830),
  (830, oGXi tX3_faceTo 2 2 1 6 600130 7301080 833 exN),
  (833, oIS 23 835),
  (835, oC (0) 836),
  (836, oIS 24 838),
  (838, oC (1) 839),
  (839, oIS 25 841),
  (841, oIL 25 843),
  (843, oC (7) 845),
  (845, oIc_ge 865 848),
  (848, oIL 24 850),
  (850, oAL 1 851),
  (851, oIL 25 853),
  (853, oGXi tX3_paintOf 2 2 1 6 600130 7301080 856 exN),
  (856, oIadd 857),
  (857, oIS 24 859),
  (859, oInc 25 1 862),
  (862, oGo 841),
  (865, oAL 1 866),
  (866, oHi tX3_prints 1 2 0 0 600130 7301080 869),
  (869, oIS 25 871),
  (871, oAL 1 872),
  (872, oAL 2 873),
  (873, oIL 21 875),
  (875, oQi ad0 0 NL_goes tL_goes 3 none 12 72 600130 7301080 878),
  (878, oIf_eq 914 881),
  (881, oAL 1 882),
  (882, oAL 2 883),
  (883, oIL 21 885),
  (885, oC (2) 886),
  (886, oIadd 887),
  (887, oC (4) 888),
  (888, oIrem 889),
  (889, oQi ad0 0 NL_goes tL_goes 3 none 12 72 600130 7301080 892),
  (892, oIf_eq 914 895),
  (895, oAL 1 896),
  (896, oHi tX3_top 1 2 0 0 600130 7301080 899),
  (899, oIL 22 901),
  (901, oIc_ne 914 904),
  (904, oAL 1 905),
  (905, oC (0) 906),
  (906, oGXi tX3_faceTo 2 2 1 6 600130 7301080 909 exN),
  (909, oIL 23 911),
  (911, oIc_eq 916 914),
  (914, oC (0) 915),
  (915, oLr),
  (916, oC (1) 917),
  (917, oIS 26 919),
  (919, oIL 26 921),
  (921, oC (7) 923),
  (923, oIc_ge 943 926),
  (926, oIL 24 928),
  (928, oAL 1 929),
  (929, oIL 26 931),
  (931, oGXi tX3_paintOf 2 2 1 6 600130 7301080 934 exN),
  (934, oIsub 935),
  (935, oIS 24 937),
  (937, oInc 26 1 940),
  (940, oGo 919),
  (943, oIL 24 945),
  (945, oAL 1 946),
  (946, oHi tX3_prints 1 2 0 0 600130 7301080 949),
  (949, oIL 25 951),
  (951, oIsub 952),
  (952, oIc_ne 961 955),
  (955, oIL 24 957),
  (957, oC (2) 958),
  (958, oIc_le 963 961),
  (961, oC (0) 962),
  (962, oLr),
  (963, oInc 3 1 966),
  (966, oGo 22),
  (969, oAL 2 970),
  (970, oAL 1 971),
  (971, oQi ad0 0 NX4_isSame tX4_isSame 2 (some 3) 200 1300 600130 7301080 974),
  (974, oLr)]
set_option maxRecDepth 20000 in
theorem okL_law {Γ : aΓ} {ad0 : Nat → Nat} (C : FOK Γ code wsL_law RL 27 room_1) (CX : FOX Γ) (CN : FON ad0 Γ) (hL : isLQ Γ) : AllS Γ (tbL_law ad0) := by
  unfold tbL_law
  refine al_c (pc := 0) (snd_NO C (ci := 2) dL_law_0 rfl inL_law_X3 tyX3_ok (by decide +kernel) (by decide +kernel) (by decide +kernel) (fun j hj => by match j, hj with | 0, _ => rfl | 1, _ => rfl | 2, _ => rfl | 3, _ => rfl | 4, _ => rfl | 5, _ => rfl | 6, _ => rfl | 7, _ => rfl | j + 8, h => exact absurd h (by omega)) (fun _ => rfl)) ?_
  refine al_c (pc := 3) (snd_dup C dL_law_3) ?_
  refine al_c (pc := 4) (snd_Nc 0 C (site_I C rfl dL_law_4 gL_law_X3_init rfl rfl rfl (by decide +kernel) (by decide +kernel) (by decide +kernel) rfl ⟨by decide +kernel, by decide +kernel, by decide +kernel⟩ ⟨by decide, by decide⟩) mX3_init) ?_
  refine al_c (pc := 7) (snd_astore_n C dL_law_7 rfl (by decide)) ?_
  refine al_c (pc := 8) (snd_aload_n C dL_law_8 rfl) ?_
  refine al_c (pc := 9) (snd_aload_n C dL_law_9 rfl) ?_
  refine al_c (pc := 10) (snd_Qr 0 C CX CN (site_S C dL_law_10 gL_law_L_build rfl rfl rfl ⟨by decide +kernel, by decide +kernel, by decide +kernel⟩ ⟨by decide, by decide⟩) mL_build) ?_
  refine al_c (pc := 13) (snd_astore_n C dL_law_13 rfl (by decide)) ?_
  refine al_c (pc := 14) (snd_aload_n C dL_law_14 rfl) ?_
  refine al_c (pc := 15) (snd_ifnn C dL_law_15 (by decide)) ?_
  refine al_c (pc := 18) (snd_iconst C dL_law_18 (by decide)) ?_
  refine al_c (pc := 19) (snd_Lr C hL dL_law_19) ?_
  refine al_c (pc := 20) (snd_iconst C dL_law_20 (by decide)) ?_
  refine al_c (pc := 21) (snd_istore_n C dL_law_21 rfl (by decide)) ?_
  refine al_c (pc := 22) (snd_iload_n C dL_law_22 rfl) ?_
  refine al_c (pc := 23) (snd_bipush C dL_law_23 (by decide)) ?_
  refine al_c (pc := 25) (snd_icmp_ge C dL_law_25 (by decide)) ?_
  refine al_c (pc := 28) (snd_aload_n C dL_law_28 rfl) ?_
  refine al_c (pc := 29) (snd_iload_n C dL_law_29 rfl) ?_
  refine al_c (pc := 30) (snd_Bs C CX CN (site_S C dL_law_30 gL_law_L_cell rfl rfl rfl ⟨by decide +kernel, by decide +kernel, by decide +kernel⟩ ⟨by decide, by decide⟩) mL_cell) ?_
  refine al_c (pc := 33) (snd_iconst C dL_law_33 (by decide)) ?_
  refine al_c (pc := 34) (snd_ishr C dL_law_34) ?_
  refine al_c (pc := 35) (snd_bipush C dL_law_35 (by decide)) ?_
  refine al_c (pc := 37) (snd_iload_n C dL_law_37 rfl) ?_
  refine al_c (pc := 38) (snd_imul C dL_law_38) ?_
  refine al_c (pc := 39) (snd_iadd C dL_law_39) ?_
  refine al_c (pc := 40) (snd_istore C dL_law_40 (by decide)) ?_
  refine al_c (pc := 42) (snd_iconst C dL_law_42 (by decide)) ?_
  refine al_c (pc := 43) (snd_istore C dL_law_43 (by decide)) ?_
  refine al_c (pc := 45) (snd_iload C dL_law_45) ?_
  refine al_c (pc := 47) (snd_iconst C dL_law_47 (by decide)) ?_
  refine al_c (pc := 48) (snd_icmp_ge C dL_law_48 (by decide)) ?_
  refine al_c (pc := 51) (snd_aload_n C dL_law_51 rfl) ?_
  refine al_c (pc := 52) (snd_aload_n C dL_law_52 rfl) ?_
  refine al_c (pc := 53) (snd_iload C dL_law_53) ?_
  refine al_c (pc := 55) (snd_iconst C dL_law_55 (by decide)) ?_
  refine al_c (pc := 56) (snd_iload C dL_law_56) ?_
  refine al_c (pc := 58) (snd_imul C dL_law_58) ?_
  refine al_c (pc := 59) (snd_ishr C dL_law_59) ?_
  refine al_c (pc := 60) (snd_bipush C dL_law_60 (by decide)) ?_
  refine al_c (pc := 62) (snd_iload C dL_law_62) ?_
  refine al_c (pc := 64) (snd_imul C dL_law_64) ?_
  refine al_c (pc := 65) (snd_iadd C dL_law_65) ?_
  refine al_c (pc := 66) (snd_Qi 0 C CX CN (site_SW C dL_law_66 gL_law_L_act rfl rfl rfl ⟨by decide +kernel, by decide +kernel, by decide +kernel⟩ ⟨by decide, by decide⟩) mL_act) ?_
  refine al_c (pc := 69) (snd_if_ne C dL_law_69 (by decide)) ?_
  refine al_c (pc := 72) (snd_iconst C dL_law_72 (by decide)) ?_
  refine al_c (pc := 73) (snd_Lr C hL dL_law_73) ?_
  refine al_c (pc := 74) (snd_iinc C dL_law_74 (by decide) (by decide)) ?_
  refine al_c (pc := 77) (snd_goto C dL_law_77 (by decide)) ?_
  refine al_c (pc := 80) (snd_aload_n C dL_law_80 rfl) ?_
  refine al_c (pc := 81) (snd_Hl C (site_V C rfl dL_law_81 gL_law_X3_digest rfl rfl rfl ⟨rfl, by decide +kernel, by decide +kernel, by decide +kernel⟩ ⟨by decide, by decide⟩) mX3_digest) ?_
  refine al_c (pc := 84) (snd_lstore C dL_law_84 (by decide)) ?_
  refine al_c (pc := 86) (snd_aload_n C dL_law_86 rfl) ?_
  refine al_c (pc := 87) (snd_Hi C (site_V C rfl dL_law_87 gL_law_X3_width rfl rfl rfl ⟨rfl, by decide +kernel, by decide +kernel, by decide +kernel⟩ ⟨by decide, by decide⟩) mX3_width) ?_
  refine al_c (pc := 90) (snd_istore C dL_law_90 (by decide)) ?_
  refine al_c (pc := 92) (snd_aload_n C dL_law_92 rfl) ?_
  refine al_c (pc := 93) (snd_Hi C (site_V C rfl dL_law_93 gL_law_X3_height rfl rfl rfl ⟨rfl, by decide +kernel, by decide +kernel, by decide +kernel⟩ ⟨by decide, by decide⟩) mX3_height) ?_
  refine al_c (pc := 96) (snd_istore C dL_law_96 (by decide)) ?_
  refine al_c (pc := 98) (snd_aload_n C dL_law_98 rfl) ?_
  refine al_c (pc := 99) (snd_Hi C (site_V C rfl dL_law_99 gL_law_X3_column rfl rfl rfl ⟨rfl, by decide +kernel, by decide +kernel, by decide +kernel⟩ ⟨by decide, by decide⟩) mX3_column) ?_
  refine al_c (pc := 102) (snd_istore C dL_law_102 (by decide)) ?_
  refine al_c (pc := 104) (snd_aload_n C dL_law_104 rfl) ?_
  refine al_c (pc := 105) (snd_Hi C (site_V C rfl dL_law_105 gL_law_X3_row rfl rfl rfl ⟨rfl, by decide +kernel, by decide +kernel, by decide +kernel⟩ ⟨by decide, by decide⟩) mX3_row) ?_
  refine al_c (pc := 108) (snd_istore C dL_law_108 (by decide)) ?_
  refine al_c (pc := 110) (snd_iload C dL_law_110) ?_
  refine al_c (pc := 112) (snd_if_lt C dL_law_112 (by decide)) ?_
  refine al_c (pc := 115) (snd_iload C dL_law_115) ?_
  refine al_c (pc := 117) (snd_if_lt C dL_law_117 (by decide)) ?_
  refine al_c (pc := 120) (snd_iload C dL_law_120) ?_
  refine al_c (pc := 122) (snd_iload C dL_law_122) ?_
  refine al_c (pc := 124) (snd_icmp_ge C dL_law_124 (by decide)) ?_
  refine al_c (pc := 127) (snd_iload C dL_law_127) ?_
  refine al_c (pc := 129) (snd_iload C dL_law_129) ?_
  refine al_c (pc := 131) (snd_icmp_ge C dL_law_131 (by decide)) ?_
  refine al_c (pc := 134) (snd_aload_n C dL_law_134 rfl) ?_
  refine al_c (pc := 135) (snd_iload C dL_law_135) ?_
  refine al_c (pc := 137) (snd_iload C dL_law_137) ?_
  refine al_c (pc := 139) (snd_GXi C CX (xsite_V C rfl dL_law_139 gL_law_X3_isWall rfl rfl rfl ⟨rfl, by decide +kernel, by decide +kernel, by decide +kernel⟩ ⟨by decide, by decide⟩) mX3_isWall exN_FX) ?_
  refine al_c (pc := 142) (snd_if_ne C dL_law_142 (by decide)) ?_
  refine al_c (pc := 145) (snd_aload_n C dL_law_145 rfl) ?_
  refine al_c (pc := 146) (snd_Hi C (site_V C rfl dL_law_146 gL_law_X3_top rfl rfl rfl ⟨rfl, by decide +kernel, by decide +kernel, by decide +kernel⟩ ⟨by decide, by decide⟩) mX3_top) ?_
  refine al_c (pc := 149) (snd_aload_n C dL_law_149 rfl) ?_
  refine al_c (pc := 150) (snd_Hi C (site_V C rfl dL_law_150 gL_law_X3_bottom rfl rfl rfl ⟨rfl, by decide +kernel, by decide +kernel, by decide +kernel⟩ ⟨by decide, by decide⟩) mX3_bottom) ?_
  refine al_c (pc := 153) (snd_iadd C dL_law_153) ?_
  refine al_c (pc := 154) (snd_bipush C dL_law_154 (by decide)) ?_
  refine al_c (pc := 156) (snd_icmp_ne C dL_law_156 (by decide)) ?_
  refine al_c (pc := 159) (snd_aload_n C dL_law_159 rfl) ?_
  refine al_c (pc := 160) (snd_iconst C dL_law_160 (by decide)) ?_
  refine al_c (pc := 161) (snd_GXi C CX (xsite_V C rfl dL_law_161 gL_law_X3_faceTo rfl rfl rfl ⟨rfl, by decide +kernel, by decide +kernel, by decide +kernel⟩ ⟨by decide, by decide⟩) mX3_faceTo exN_FX) ?_
  refine al_c (pc := 164) (snd_aload_n C dL_law_164 rfl) ?_
  refine al_c (pc := 165) (snd_iconst C dL_law_165 (by decide)) ?_
  refine al_c (pc := 166) (snd_GXi C CX (xsite_V C rfl dL_law_166 gL_law_X3_faceTo rfl rfl rfl ⟨rfl, by decide +kernel, by decide +kernel, by decide +kernel⟩ ⟨by decide, by decide⟩) mX3_faceTo exN_FX) ?_
  refine al_c (pc := 169) (snd_iadd C dL_law_169) ?_
  refine al_c (pc := 170) (snd_bipush C dL_law_170 (by decide)) ?_
  refine al_c (pc := 172) (snd_icmp_ne C dL_law_172 (by decide)) ?_
  refine al_c (pc := 175) (snd_aload_n C dL_law_175 rfl) ?_
  refine al_c (pc := 176) (snd_iconst C dL_law_176 (by decide)) ?_
  refine al_c (pc := 177) (snd_GXi C CX (xsite_V C rfl dL_law_177 gL_law_X3_faceTo rfl rfl rfl ⟨rfl, by decide +kernel, by decide +kernel, by decide +kernel⟩ ⟨by decide, by decide⟩) mX3_faceTo exN_FX) ?_
  refine al_c (pc := 180) (snd_aload_n C dL_law_180 rfl) ?_
  refine al_c (pc := 181) (snd_iconst C dL_law_181 (by decide)) ?_
  refine al_c (pc := 182) (snd_GXi C CX (xsite_V C rfl dL_law_182 gL_law_X3_faceTo rfl rfl rfl ⟨rfl, by decide +kernel, by decide +kernel, by decide +kernel⟩ ⟨by decide, by decide⟩) mX3_faceTo exN_FX) ?_
  refine al_c (pc := 185) (snd_iadd C dL_law_185) ?_
  refine al_c (pc := 186) (snd_bipush C dL_law_186 (by decide)) ?_
  refine al_c (pc := 188) (snd_icmp_eq C dL_law_188 (by decide)) ?_
  refine al_c (pc := 191) (snd_iconst C dL_law_191 (by decide)) ?_
  refine al_c (pc := 192) (snd_Lr C hL dL_law_192) ?_
  refine al_c (pc := 193) (snd_iconst C dL_law_193 (by decide)) ?_
  refine al_c (pc := 194) (snd_aload_n C dL_law_194 rfl) ?_
  refine al_c (pc := 195) (snd_Hi C (site_V C rfl dL_law_195 gL_law_X3_top rfl rfl rfl ⟨rfl, by decide +kernel, by decide +kernel, by decide +kernel⟩ ⟨by decide, by decide⟩) mX3_top) ?_
  refine al_c (pc := 198) (snd_ishl C dL_law_198) ?_
  refine al_c (pc := 199) (snd_iconst C dL_law_199 (by decide)) ?_
  refine al_c (pc := 200) (snd_aload_n C dL_law_200 rfl) ?_
  refine al_c (pc := 201) (snd_Hi C (site_V C rfl dL_law_201 gL_law_X3_bottom rfl rfl rfl ⟨rfl, by decide +kernel, by decide +kernel, by decide +kernel⟩ ⟨by decide, by decide⟩) mX3_bottom) ?_
  refine al_c (pc := 204) (snd_ishl C dL_law_204) ?_
  refine al_c (pc := 205) (snd_ior C dL_law_205) ?_
  refine al_c (pc := 206) (snd_istore C dL_law_206 (by decide)) ?_
  refine al_c (pc := 208) (snd_iconst C dL_law_208 (by decide)) ?_
  refine al_c (pc := 209) (snd_istore C dL_law_209 (by decide)) ?_
  refine al_c (pc := 211) (snd_iload C dL_law_211) ?_
  refine al_c (pc := 213) (snd_iconst C dL_law_213 (by decide)) ?_
  refine al_c (pc := 214) (snd_icmp_ge C dL_law_214 (by decide)) ?_
  refine al_c (pc := 217) (snd_iload C dL_law_217) ?_
  refine al_c (pc := 219) (snd_iconst C dL_law_219 (by decide)) ?_
  refine al_c (pc := 220) (snd_aload_n C dL_law_220 rfl) ?_
  refine al_c (pc := 221) (snd_iload C dL_law_221) ?_
  refine al_c (pc := 223) (snd_GXi C CX (xsite_V C rfl dL_law_223 gL_law_X3_faceTo rfl rfl rfl ⟨rfl, by decide +kernel, by decide +kernel, by decide +kernel⟩ ⟨by decide, by decide⟩) mX3_faceTo exN_FX) ?_
  refine al_c (pc := 226) (snd_ishl C dL_law_226) ?_
  refine al_c (pc := 227) (snd_ior C dL_law_227) ?_
  refine al_c (pc := 228) (snd_istore C dL_law_228 (by decide)) ?_
  refine al_c (pc := 230) (snd_iinc C dL_law_230 (by decide) (by decide)) ?_
  refine al_c (pc := 233) (snd_goto C dL_law_233 (by decide)) ?_
  refine al_c (pc := 236) (snd_iconst C dL_law_236 (by decide)) ?_
  refine al_c (pc := 237) (snd_istore C dL_law_237 (by decide)) ?_
  refine al_c (pc := 239) (snd_iconst C dL_law_239 (by decide)) ?_
  refine al_c (pc := 240) (snd_istore C dL_law_240 (by decide)) ?_
  refine al_c (pc := 242) (snd_iload C dL_law_242) ?_
  refine al_c (pc := 244) (snd_bipush C dL_law_244 (by decide)) ?_
  refine al_c (pc := 246) (snd_icmp_ge C dL_law_246 (by decide)) ?_
  refine al_c (pc := 249) (snd_iload C dL_law_249) ?_
  refine al_c (pc := 251) (snd_aload_n C dL_law_251 rfl) ?_
  refine al_c (pc := 252) (snd_iload C dL_law_252) ?_
  refine al_c (pc := 254) (snd_GXi C CX (xsite_V C rfl dL_law_254 gL_law_X3_cellsWith rfl rfl rfl ⟨rfl, by decide +kernel, by decide +kernel, by decide +kernel⟩ ⟨by decide, by decide⟩) mX3_cellsWith exN_FX) ?_
  refine al_c (pc := 257) (snd_iadd C dL_law_257) ?_
  refine al_c (pc := 258) (snd_istore C dL_law_258 (by decide)) ?_
  refine al_c (pc := 260) (snd_iinc C dL_law_260 (by decide) (by decide)) ?_
  refine al_c (pc := 263) (snd_goto C dL_law_263 (by decide)) ?_
  refine al_c (pc := 266) (snd_iconst C dL_law_266 (by decide)) ?_
  refine al_c (pc := 267) (snd_istore C dL_law_267 (by decide)) ?_
  refine al_c (pc := 269) (snd_iconst C dL_law_269 (by decide)) ?_
  refine al_c (pc := 270) (snd_istore C dL_law_270 (by decide)) ?_
  refine al_c (pc := 272) (snd_iload C dL_law_272) ?_
  refine al_c (pc := 274) (snd_iload C dL_law_274) ?_
  refine al_c (pc := 276) (snd_icmp_ge C dL_law_276 (by decide)) ?_
  refine al_c (pc := 279) (snd_iconst C dL_law_279 (by decide)) ?_
  refine al_c (pc := 280) (snd_istore C dL_law_280 (by decide)) ?_
  refine al_c (pc := 282) (snd_iload C dL_law_282) ?_
  refine al_c (pc := 284) (snd_iload C dL_law_284) ?_
  refine al_c (pc := 286) (snd_icmp_ge C dL_law_286 (by decide)) ?_
  refine al_c (pc := 289) (snd_iload C dL_law_289) ?_
  refine al_c (pc := 291) (snd_aload_n C dL_law_291 rfl) ?_
  refine al_c (pc := 292) (snd_iload C dL_law_292) ?_
  refine al_c (pc := 294) (snd_iload C dL_law_294) ?_
  refine al_c (pc := 296) (snd_GXi C CX (xsite_V C rfl dL_law_296 gL_law_X3_isWall rfl rfl rfl ⟨rfl, by decide +kernel, by decide +kernel, by decide +kernel⟩ ⟨by decide, by decide⟩) mX3_isWall exN_FX) ?_
  refine al_c (pc := 299) (snd_if_eq C dL_law_299 (by decide)) ?_
  refine al_c (pc := 302) (snd_iconst C dL_law_302 (by decide)) ?_
  refine al_c (pc := 303) (snd_goto C dL_law_303 (by decide)) ?_
  refine al_c (pc := 306) (snd_iconst C dL_law_306 (by decide)) ?_
  refine al_c (pc := 307) (snd_iadd C dL_law_307) ?_
  refine al_c (pc := 308) (snd_istore C dL_law_308 (by decide)) ?_
  refine al_c (pc := 310) (snd_iinc C dL_law_310 (by decide) (by decide)) ?_
  refine al_c (pc := 313) (snd_goto C dL_law_313 (by decide)) ?_
  refine al_c (pc := 316) (snd_iinc C dL_law_316 (by decide) (by decide)) ?_
  refine al_c (pc := 319) (snd_goto C dL_law_319 (by decide)) ?_
  refine al_c (pc := 322) (snd_iload C dL_law_322) ?_
  refine al_c (pc := 324) (snd_bipush C dL_law_324 (by decide)) ?_
  refine al_c (pc := 326) (snd_icmp_ne C dL_law_326 (by decide)) ?_
  refine al_c (pc := 329) (snd_iload C dL_law_329) ?_
  refine al_c (pc := 331) (snd_iload C dL_law_331) ?_
  refine al_c (pc := 333) (snd_iload C dL_law_333) ?_
  refine al_c (pc := 335) (snd_imul C dL_law_335) ?_
  refine al_c (pc := 336) (snd_icmp_ne C dL_law_336 (by decide)) ?_
  refine al_c (pc := 339) (snd_iload C dL_law_339) ?_
  refine al_c (pc := 341) (snd_aload_n C dL_law_341 rfl) ?_
  refine al_c (pc := 342) (snd_Hi C (site_V C rfl dL_law_342 gL_law_X3_walls rfl rfl rfl ⟨rfl, by decide +kernel, by decide +kernel, by decide +kernel⟩ ⟨by decide, by decide⟩) mX3_walls) ?_
  refine al_c (pc := 345) (snd_icmp_ne C dL_law_345 (by decide)) ?_
  refine al_c (pc := 348) (snd_aload_n C dL_law_348 rfl) ?_
  refine al_c (pc := 349) (snd_Hi C (site_V C rfl dL_law_349 gL_law_X3_prints rfl rfl rfl ⟨rfl, by decide +kernel, by decide +kernel, by decide +kernel⟩ ⟨by decide, by decide⟩) mX3_prints) ?_
  refine al_c (pc := 352) (snd_aload_n C dL_law_352 rfl) ?_
  refine al_c (pc := 353) (snd_Hi C (site_V C rfl dL_law_353 gL_law_X3_rolls rfl rfl rfl ⟨rfl, by decide +kernel, by decide +kernel, by decide +kernel⟩ ⟨by decide, by decide⟩) mX3_rolls) ?_
  refine al_c (pc := 356) (snd_icmp_gt C dL_law_356 (by decide)) ?_
  refine al_c (pc := 359) (snd_aload_n C dL_law_359 rfl) ?_
  refine al_c (pc := 360) (snd_iload C dL_law_360) ?_
  refine al_c (pc := 362) (snd_iload C dL_law_362) ?_
  refine al_c (pc := 364) (snd_GXi C CX (xsite_V C rfl dL_law_364 gL_law_X3_fewestRolls rfl rfl rfl ⟨rfl, by decide +kernel, by decide +kernel, by decide +kernel⟩ ⟨by decide, by decide⟩) mX3_fewestRolls exN_FX) ?_
  refine al_c (pc := 367) (snd_if_ne C dL_law_367 (by decide)) ?_
  refine al_c (pc := 370) (snd_aload_n C dL_law_370 rfl) ?_
  refine al_c (pc := 371) (snd_iconst C dL_law_371 (by decide)) ?_
  refine al_c (pc := 372) (snd_GXi C CX (xsite_V C rfl dL_law_372 gL_law_X3_cellsBehind rfl rfl rfl ⟨rfl, by decide +kernel, by decide +kernel, by decide +kernel⟩ ⟨by decide, by decide⟩) mX3_cellsBehind exN_FX) ?_
  refine al_c (pc := 375) (snd_iconst C dL_law_375 (by decide)) ?_
  refine al_c (pc := 376) (snd_icmp_eq C dL_law_376 (by decide)) ?_
  refine al_c (pc := 379) (snd_iconst C dL_law_379 (by decide)) ?_
  refine al_c (pc := 380) (snd_Lr C hL dL_law_380) ?_
  refine al_c (pc := 381) (snd_iconst C dL_law_381 (by decide)) ?_
  refine al_c (pc := 382) (snd_istore C dL_law_382 (by decide)) ?_
  refine al_c (pc := 384) (snd_aload_n C dL_law_384 rfl) ?_
  refine al_c (pc := 385) (snd_Hi C (site_V C rfl dL_law_385 gL_law_X3_waysToLie rfl rfl rfl ⟨rfl, by decide +kernel, by decide +kernel, by decide +kernel⟩ ⟨by decide, by decide⟩) mX3_waysToLie) ?_
  refine al_c (pc := 388) (snd_istore C dL_law_388 (by decide)) ?_
  refine al_c (pc := 390) (snd_iconst C dL_law_390 (by decide)) ?_
  refine al_c (pc := 391) (snd_istore C dL_law_391 (by decide)) ?_
  refine al_c (pc := 393) (snd_iload C dL_law_393) ?_
  refine al_c (pc := 395) (snd_iload C dL_law_395) ?_
  refine al_c (pc := 397) (snd_icmp_ge C dL_law_397 (by decide)) ?_
  refine al_c (pc := 400) (snd_iconst C dL_law_400 (by decide)) ?_
  refine al_c (pc := 401) (snd_istore C dL_law_401 (by decide)) ?_
  refine al_c (pc := 403) (snd_iload C dL_law_403) ?_
  refine al_c (pc := 405) (snd_iload C dL_law_405) ?_
  refine al_c (pc := 407) (snd_icmp_ge C dL_law_407 (by decide)) ?_
  refine al_c (pc := 410) (snd_aload_n C dL_law_410 rfl) ?_
  refine al_c (pc := 411) (snd_iload C dL_law_411) ?_
  refine al_c (pc := 413) (snd_iload C dL_law_413) ?_
  refine al_c (pc := 415) (snd_GXi C CX (xsite_V C rfl dL_law_415 gL_law_X3_fewestRolls rfl rfl rfl ⟨rfl, by decide +kernel, by decide +kernel, by decide +kernel⟩ ⟨by decide, by decide⟩) mX3_fewestRolls exN_FX) ?_
  refine al_c (pc := 418) (snd_istore C dL_law_418 (by decide)) ?_
  refine al_c (pc := 420) (snd_aload_n C dL_law_420 rfl) ?_
  refine al_c (pc := 421) (snd_iload C dL_law_421) ?_
  refine al_c (pc := 423) (snd_iload C dL_law_423) ?_
  refine al_c (pc := 425) (snd_GXi C CX (xsite_V C rfl dL_law_425 gL_law_X3_topsAt rfl rfl rfl ⟨rfl, by decide +kernel, by decide +kernel, by decide +kernel⟩ ⟨by decide, by decide⟩) mX3_topsAt exN_FX) ?_
  refine al_c (pc := 428) (snd_istore C dL_law_428 (by decide)) ?_
  refine al_c (pc := 430) (snd_iload C dL_law_430) ?_
  refine al_c (pc := 432) (snd_iload C dL_law_432) ?_
  refine al_c (pc := 434) (snd_isub C dL_law_434) ?_
  refine al_c (pc := 435) (snd_abs C dL_law_435 (by decide +kernel) (by decide +kernel) (by decide +kernel) (by decide +kernel) (by decide) (by decide)) ?_
  refine al_c (pc := 438) (snd_iload C dL_law_438) ?_
  refine al_c (pc := 440) (snd_iload C dL_law_440) ?_
  refine al_c (pc := 442) (snd_isub C dL_law_442) ?_
  refine al_c (pc := 443) (snd_abs C dL_law_443 (by decide +kernel) (by decide +kernel) (by decide +kernel) (by decide +kernel) (by decide) (by decide)) ?_
  refine al_c (pc := 446) (snd_iadd C dL_law_446) ?_
  refine al_c (pc := 447) (snd_istore C dL_law_447 (by decide)) ?_
  refine al_c (pc := 449) (snd_iload C dL_law_449) ?_
  refine al_c (pc := 451) (snd_if_ge C dL_law_451 (by decide)) ?_
  refine al_c (pc := 454) (snd_iconst C dL_law_454 (by decide)) ?_
  refine al_c (pc := 455) (snd_goto C dL_law_455 (by decide)) ?_
  refine al_c (pc := 458) (snd_iconst C dL_law_458 (by decide)) ?_
  refine al_c (pc := 459) (snd_iload C dL_law_459) ?_
  refine al_c (pc := 461) (snd_if_ne C dL_law_461 (by decide)) ?_
  refine al_c (pc := 464) (snd_iconst C dL_law_464 (by decide)) ?_
  refine al_c (pc := 465) (snd_goto C dL_law_465 (by decide)) ?_
  refine al_c (pc := 468) (snd_iconst C dL_law_468 (by decide)) ?_
  refine al_c (pc := 469) (snd_icmp_ne C dL_law_469 (by decide)) ?_
  refine al_c (pc := 472) (snd_iload C dL_law_472) ?_
  refine al_c (pc := 474) (snd_bipush C dL_law_474 (by decide)) ?_
  refine al_c (pc := 476) (snd_icmp_gt C dL_law_476 (by decide)) ?_
  refine al_c (pc := 479) (snd_aload_n C dL_law_479 rfl) ?_
  refine al_c (pc := 480) (snd_iload C dL_law_480) ?_
  refine al_c (pc := 482) (snd_iload C dL_law_482) ?_
  refine al_c (pc := 484) (snd_GXi C CX (xsite_V C rfl dL_law_484 gL_law_X3_isWall rfl rfl rfl ⟨rfl, by decide +kernel, by decide +kernel, by decide +kernel⟩ ⟨by decide, by decide⟩) mX3_isWall exN_FX) ?_
  refine al_c (pc := 487) (snd_if_eq C dL_law_487 (by decide)) ?_
  refine al_c (pc := 490) (snd_iload C dL_law_490) ?_
  refine al_c (pc := 492) (snd_if_ge C dL_law_492 (by decide)) ?_
  refine al_c (pc := 495) (snd_iload C dL_law_495) ?_
  refine al_c (pc := 497) (snd_if_lt C dL_law_497 (by decide)) ?_
  refine al_c (pc := 500) (snd_iload C dL_law_500) ?_
  refine al_c (pc := 502) (snd_iload C dL_law_502) ?_
  refine al_c (pc := 504) (snd_icmp_lt C dL_law_504 (by decide)) ?_
  refine al_c (pc := 507) (snd_iload C dL_law_507) ?_
  refine al_c (pc := 509) (snd_iload C dL_law_509) ?_
  refine al_c (pc := 511) (snd_isub C dL_law_511) ?_
  refine al_c (pc := 512) (snd_iconst C dL_law_512 (by decide)) ?_
  refine al_c (pc := 513) (snd_irem C dL_law_513) ?_
  refine al_c (pc := 514) (snd_if_eq C dL_law_514 (by decide)) ?_
  refine al_c (pc := 517) (snd_iconst C dL_law_517 (by decide)) ?_
  refine al_c (pc := 518) (snd_Lr C hL dL_law_518) ?_
  refine al_c (pc := 519) (snd_iload C dL_law_519) ?_
  refine al_c (pc := 521) (snd_iload C dL_law_521) ?_
  refine al_c (pc := 523) (snd_if_ge C dL_law_523 (by decide)) ?_
  refine al_c (pc := 526) (snd_iconst C dL_law_526 (by decide)) ?_
  refine al_c (pc := 527) (snd_goto C dL_law_527 (by decide)) ?_
  refine al_c (pc := 530) (snd_iconst C dL_law_530 (by decide)) ?_
  refine al_c (pc := 531) (snd_iadd C dL_law_531) ?_
  refine al_c (pc := 532) (snd_istore C dL_law_532 (by decide)) ?_
  refine al_c (pc := 534) (snd_iinc C dL_law_534 (by decide) (by decide)) ?_
  refine al_c (pc := 537) (snd_goto C dL_law_537 (by decide)) ?_
  refine al_c (pc := 540) (snd_iinc C dL_law_540 (by decide) (by decide)) ?_
  refine al_c (pc := 543) (snd_goto C dL_law_543 (by decide)) ?_
  refine al_c (pc := 546) (snd_iload C dL_law_546) ?_
  refine al_c (pc := 548) (snd_aload_n C dL_law_548 rfl) ?_
  refine al_c (pc := 549) (snd_Hi C (site_V C rfl dL_law_549 gL_law_X3_cellsWithinReach rfl rfl rfl ⟨rfl, by decide +kernel, by decide +kernel, by decide +kernel⟩ ⟨by decide, by decide⟩) mX3_cellsWithinReach) ?_
  refine al_c (pc := 552) (snd_icmp_ne C dL_law_552 (by decide)) ?_
  refine al_c (pc := 555) (snd_iload C dL_law_555) ?_
  refine al_c (pc := 557) (snd_iload C dL_law_557) ?_
  refine al_c (pc := 559) (snd_icmp_lt C dL_law_559 (by decide)) ?_
  refine al_c (pc := 562) (snd_iload C dL_law_562) ?_
  refine al_c (pc := 564) (snd_bipush C dL_law_564 (by decide)) ?_
  refine al_c (pc := 566) (snd_iload C dL_law_566) ?_
  refine al_c (pc := 568) (snd_imul C dL_law_568) ?_
  refine al_c (pc := 569) (snd_icmp_le C dL_law_569 (by decide)) ?_
  refine al_c (pc := 572) (snd_iconst C dL_law_572 (by decide)) ?_
  refine al_c (pc := 573) (snd_Lr C hL dL_law_573) ?_
  refine al_c (pc := 574) (snd_iconst C dL_law_574 (by decide)) ?_
  refine al_c (pc := 575) (snd_istore C dL_law_575 (by decide)) ?_
  refine al_c (pc := 577) (snd_iload C dL_law_577) ?_
  refine al_c (pc := 579) (snd_iconst C dL_law_579 (by decide)) ?_
  refine al_c (pc := 580) (snd_icmp_ge C dL_law_580 (by decide)) ?_
  refine al_c (pc := 583) (snd_aload_n C dL_law_583 rfl) ?_
  refine al_c (pc := 584) (snd_iload C dL_law_584) ?_
  refine al_c (pc := 586) (snd_GXi C CX (xsite_V C rfl dL_law_586 gL_law_X3_canRoll rfl rfl rfl ⟨rfl, by decide +kernel, by decide +kernel, by decide +kernel⟩ ⟨by decide, by decide⟩) mX3_canRoll exN_FX) ?_
  refine al_c (pc := 589) (snd_if_eq C dL_law_589 (by decide)) ?_
  refine al_c (pc := 592) (snd_aload_n C dL_law_592 rfl) ?_
  refine al_c (pc := 593) (snd_iload C dL_law_593) ?_
  refine al_c (pc := 595) (snd_Gs1 C CN dL_law_595 (by decide +kernel)) ?_
  refine al_c (pc := 598) (snd_iload C dL_law_598) ?_
  refine al_c (pc := 600) (snd_Si1 C CN dL_law_600) ?_
  refine al_c (pc := 601) (snd_iadd C dL_law_601) ?_
  refine al_c (pc := 602) (snd_iload C dL_law_602) ?_
  refine al_c (pc := 604) (snd_Gs2 C CN dL_law_604 (by decide +kernel)) ?_
  refine al_c (pc := 607) (snd_iload C dL_law_607) ?_
  refine al_c (pc := 609) (snd_Si2 C CN dL_law_609) ?_
  refine al_c (pc := 610) (snd_iadd C dL_law_610) ?_
  refine al_c (pc := 611) (snd_GXi C CX (xsite_V C rfl dL_law_611 gL_law_X3_fewestRolls rfl rfl rfl ⟨rfl, by decide +kernel, by decide +kernel, by decide +kernel⟩ ⟨by decide, by decide⟩) mX3_fewestRolls exN_FX) ?_
  refine al_c (pc := 614) (snd_iconst C dL_law_614 (by decide)) ?_
  refine al_c (pc := 615) (snd_icmp_eq C dL_law_615 (by decide)) ?_
  refine al_c (pc := 618) (snd_iconst C dL_law_618 (by decide)) ?_
  refine al_c (pc := 619) (snd_Lr C hL dL_law_619) ?_
  refine al_c (pc := 620) (snd_iinc C dL_law_620 (by decide) (by decide)) ?_
  refine al_c (pc := 623) (snd_goto C dL_law_623 (by decide)) ?_
  refine al_c (pc := 626) (snd_iload C dL_law_626) ?_
  refine al_c (pc := 628) (snd_iconst C dL_law_628 (by decide)) ?_
  refine al_c (pc := 629) (snd_ishr C dL_law_629) ?_
  refine al_c (pc := 630) (snd_iload C dL_law_630) ?_
  refine al_c (pc := 632) (snd_Bi C (site_S C dL_law_632 gL_law_L_below rfl rfl rfl ⟨by decide +kernel, by decide +kernel, by decide +kernel⟩ ⟨by decide, by decide⟩) mL_below) ?_
  refine al_c (pc := 635) (snd_istore C dL_law_635 (by decide)) ?_
  refine al_c (pc := 637) (snd_iload C dL_law_637) ?_
  refine al_c (pc := 639) (snd_bipush C dL_law_639 (by decide)) ?_
  refine al_c (pc := 641) (snd_ishr C dL_law_641) ?_
  refine al_c (pc := 642) (snd_iload C dL_law_642) ?_
  refine al_c (pc := 644) (snd_Bi C (site_S C dL_law_644 gL_law_L_below rfl rfl rfl ⟨by decide +kernel, by decide +kernel, by decide +kernel⟩ ⟨by decide, by decide⟩) mL_below) ?_
  refine al_c (pc := 647) (snd_istore C dL_law_647 (by decide)) ?_
  refine al_c (pc := 649) (snd_iconst C dL_law_649 (by decide)) ?_
  refine al_c (pc := 650) (snd_iload C dL_law_650) ?_
  refine al_c (pc := 652) (snd_iconst C dL_law_652 (by decide)) ?_
  refine al_c (pc := 653) (snd_ishr C dL_law_653) ?_
  refine al_c (pc := 654) (snd_bipush C dL_law_654 (by decide)) ?_
  refine al_c (pc := 656) (snd_Bi C (site_S C dL_law_656 gL_law_L_below rfl rfl rfl ⟨by decide +kernel, by decide +kernel, by decide +kernel⟩ ⟨by decide, by decide⟩) mL_below) ?_
  refine al_c (pc := 659) (snd_iadd C dL_law_659) ?_
  refine al_c (pc := 660) (snd_istore C dL_law_660 (by decide)) ?_
  refine al_c (pc := 662) (snd_aload_n C dL_law_662 rfl) ?_
  refine al_c (pc := 663) (snd_iload C dL_law_663) ?_
  refine al_c (pc := 665) (snd_iload C dL_law_665) ?_
  refine al_c (pc := 667) (snd_iload C dL_law_667) ?_
  refine al_c (pc := 669) (snd_GXi C CX (xsite_V C rfl dL_law_669 gL_law_X3_fewestRollsWithTop rfl rfl rfl ⟨rfl, by decide +kernel, by decide +kernel, by decide +kernel⟩ ⟨by decide, by decide⟩) mX3_fewestRollsWithTop exN_FX) ?_
  refine al_c (pc := 672) (snd_istore C dL_law_672 (by decide)) ?_
  refine al_c (pc := 674) (snd_aload_n C dL_law_674 rfl) ?_
  refine al_c (pc := 675) (snd_iload C dL_law_675) ?_
  refine al_c (pc := 677) (snd_iload C dL_law_677) ?_
  refine al_c (pc := 679) (snd_iload C dL_law_679) ?_
  refine al_c (pc := 681) (snd_GXi C CX (xsite_V C rfl dL_law_681 gL_law_X3_firstRoll rfl rfl rfl ⟨rfl, by decide +kernel, by decide +kernel, by decide +kernel⟩ ⟨by decide, by decide⟩) mX3_firstRoll exN_FX) ?_
  refine al_c (pc := 684) (snd_istore C dL_law_684 (by decide)) ?_
  refine al_c (pc := 686) (snd_iload C dL_law_686) ?_
  refine al_c (pc := 688) (snd_if_lt C dL_law_688 (by decide)) ?_
  refine al_c (pc := 691) (snd_iload C dL_law_691) ?_
  refine al_c (pc := 693) (snd_aload_n C dL_law_693 rfl) ?_
  refine al_c (pc := 694) (snd_iload C dL_law_694) ?_
  refine al_c (pc := 696) (snd_iload C dL_law_696) ?_
  refine al_c (pc := 698) (snd_GXi C CX (xsite_V C rfl dL_law_698 gL_law_X3_fewestRolls rfl rfl rfl ⟨rfl, by decide +kernel, by decide +kernel, by decide +kernel⟩ ⟨by decide, by decide⟩) mX3_fewestRolls exN_FX) ?_
  refine al_c (pc := 701) (snd_icmp_lt C dL_law_701 (by decide)) ?_
  refine al_c (pc := 704) (snd_iload C dL_law_704) ?_
  refine al_c (pc := 706) (snd_if_lt C dL_law_706 (by decide)) ?_
  refine al_c (pc := 709) (snd_iconst C dL_law_709 (by decide)) ?_
  refine al_c (pc := 710) (snd_goto C dL_law_710 (by decide)) ?_
  refine al_c (pc := 713) (snd_iconst C dL_law_713 (by decide)) ?_
  refine al_c (pc := 714) (snd_iload C dL_law_714) ?_
  refine al_c (pc := 716) (snd_if_le C dL_law_716 (by decide)) ?_
  refine al_c (pc := 719) (snd_iconst C dL_law_719 (by decide)) ?_
  refine al_c (pc := 720) (snd_goto C dL_law_720 (by decide)) ?_
  refine al_c (pc := 723) (snd_iconst C dL_law_723 (by decide)) ?_
  refine al_c (pc := 724) (snd_icmp_ne C dL_law_724 (by decide)) ?_
  refine al_c (pc := 727) (snd_aload_n C dL_law_727 rfl) ?_
  refine al_c (pc := 728) (snd_Hl C (site_V C rfl dL_law_728 gL_law_X3_digest rfl rfl rfl ⟨rfl, by decide +kernel, by decide +kernel, by decide +kernel⟩ ⟨by decide, by decide⟩) mX3_digest) ?_
  refine al_c (pc := 731) (snd_lload C dL_law_731) ?_
  refine al_c (pc := 733) (snd_lcmp C dL_law_733) ?_
  refine al_c (pc := 734) (snd_if_eq C dL_law_734 (by decide)) ?_
  refine al_c (pc := 737) (snd_iconst C dL_law_737 (by decide)) ?_
  refine al_c (pc := 738) (snd_Lr C hL dL_law_738) ?_
  refine al_c (pc := 739) (snd_iload C dL_law_739) ?_
  refine al_c (pc := 741) (snd_if_lt C dL_law_741 (by decide)) ?_
  refine al_c (pc := 744) (snd_aload_n C dL_law_744 rfl) ?_
  refine al_c (pc := 745) (snd_Hi C (site_V C rfl dL_law_745 gL_law_X3_rolls rfl rfl rfl ⟨rfl, by decide +kernel, by decide +kernel, by decide +kernel⟩ ⟨by decide, by decide⟩) mX3_rolls) ?_
  refine al_c (pc := 748) (snd_istore C dL_law_748 (by decide)) ?_
  refine al_c (pc := 750) (snd_aload_n C dL_law_750 rfl) ?_
  refine al_c (pc := 751) (snd_iload C dL_law_751) ?_
  refine al_c (pc := 753) (snd_GXi C CX (xsite_V C rfl dL_law_753 gL_law_X3_canRoll rfl rfl rfl ⟨rfl, by decide +kernel, by decide +kernel, by decide +kernel⟩ ⟨by decide, by decide⟩) mX3_canRoll exN_FX) ?_
  refine al_c (pc := 756) (snd_if_eq C dL_law_756 (by decide)) ?_
  refine al_c (pc := 759) (snd_aload_n C dL_law_759 rfl) ?_
  refine al_c (pc := 760) (snd_aload_n C dL_law_760 rfl) ?_
  refine al_c (pc := 761) (snd_iload C dL_law_761) ?_
  refine al_c (pc := 763) (snd_Qi 0 C CX CN (site_S C dL_law_763 gL_law_L_goes rfl rfl rfl ⟨by decide +kernel, by decide +kernel, by decide +kernel⟩ ⟨by decide, by decide⟩) mL_goes) ?_
  refine al_c (pc := 766) (snd_if_eq C dL_law_766 (by decide)) ?_
  refine al_c (pc := 769) (snd_aload_n C dL_law_769 rfl) ?_
  refine al_c (pc := 770) (snd_iload C dL_law_770) ?_
  refine al_c (pc := 772) (snd_iload C dL_law_772) ?_
  refine al_c (pc := 774) (snd_iload C dL_law_774) ?_
  refine al_c (pc := 776) (snd_GXi C CX (xsite_V C rfl dL_law_776 gL_law_X3_fewestRollsWithTop rfl rfl rfl ⟨rfl, by decide +kernel, by decide +kernel, by decide +kernel⟩ ⟨by decide, by decide⟩) mX3_fewestRollsWithTop exN_FX) ?_
  refine al_c (pc := 779) (snd_iload C dL_law_779) ?_
  refine al_c (pc := 781) (snd_iconst C dL_law_781 (by decide)) ?_
  refine al_c (pc := 782) (snd_isub C dL_law_782) ?_
  refine al_c (pc := 783) (snd_icmp_ne C dL_law_783 (by decide)) ?_
  refine al_c (pc := 786) (snd_aload_n C dL_law_786 rfl) ?_
  refine al_c (pc := 787) (snd_Hi C (site_V C rfl dL_law_787 gL_law_X3_rolls rfl rfl rfl ⟨rfl, by decide +kernel, by decide +kernel, by decide +kernel⟩ ⟨by decide, by decide⟩) mX3_rolls) ?_
  refine al_c (pc := 790) (snd_iload C dL_law_790) ?_
  refine al_c (pc := 792) (snd_iconst C dL_law_792 (by decide)) ?_
  refine al_c (pc := 793) (snd_iadd C dL_law_793) ?_
  refine al_c (pc := 794) (snd_icmp_eq C dL_law_794 (by decide)) ?_
  refine al_c (pc := 797) (snd_iconst C dL_law_797 (by decide)) ?_
  refine al_c (pc := 798) (snd_Lr C hL dL_law_798) ?_
  refine al_c (pc := 799) (snd_iload C dL_law_799) ?_
  refine al_c (pc := 801) (snd_bipush C dL_law_801 (by decide)) ?_
  refine al_c (pc := 803) (snd_ishr C dL_law_803) ?_
  refine al_c (pc := 804) (snd_iconst C dL_law_804 (by decide)) ?_
  refine al_c (pc := 805) (snd_Bi C (site_S C dL_law_805 gL_law_L_below rfl rfl rfl ⟨by decide +kernel, by decide +kernel, by decide +kernel⟩ ⟨by decide, by decide⟩) mL_below) ?_
  refine al_c (pc := 808) (snd_istore C dL_law_808 (by decide)) ?_
  refine al_c (pc := 810) (snd_aload_n C dL_law_810 rfl) ?_
  refine al_c (pc := 811) (snd_iload C dL_law_811) ?_
  refine al_c (pc := 813) (snd_GXi C CX (xsite_V C rfl dL_law_813 gL_law_X3_canRoll rfl rfl rfl ⟨rfl, by decide +kernel, by decide +kernel, by decide +kernel⟩ ⟨by decide, by decide⟩) mX3_canRoll exN_FX) ?_
  refine al_c (pc := 816) (snd_if_ne C dL_law_816 (by decide)) ?_
  refine al_c (pc := 819) (snd_goto C dL_law_819 (by decide)) ?_
  refine al_c (pc := 822) (snd_aload_n C dL_law_822 rfl) ?_
  refine al_c (pc := 823) (snd_Hi C (site_V C rfl dL_law_823 gL_law_X3_top rfl rfl rfl ⟨rfl, by decide +kernel, by decide +kernel, by decide +kernel⟩ ⟨by decide, by decide⟩) mX3_top) ?_
  refine al_c (pc := 826) (snd_istore C dL_law_826 (by decide)) ?_
  refine al_c (pc := 828) (snd_aload_n C dL_law_828 rfl) ?_
  refine al_c (pc := 829) (snd_iconst C dL_law_829 (by decide)) ?_
  refine al_c (pc := 830) (snd_GXi C CX (xsite_V C rfl dL_law_830 gL_law_X3_faceTo rfl rfl rfl ⟨rfl, by decide +kernel, by decide +kernel, by decide +kernel⟩ ⟨by decide, by decide⟩) mX3_faceTo exN_FX) ?_
  refine al_c (pc := 833) (snd_istore C dL_law_833 (by decide)) ?_
  refine al_c (pc := 835) (snd_iconst C dL_law_835 (by decide)) ?_
  refine al_c (pc := 836) (snd_istore C dL_law_836 (by decide)) ?_
  refine al_c (pc := 838) (snd_iconst C dL_law_838 (by decide)) ?_
  refine al_c (pc := 839) (snd_istore C dL_law_839 (by decide)) ?_
  refine al_c (pc := 841) (snd_iload C dL_law_841) ?_
  refine al_c (pc := 843) (snd_bipush C dL_law_843 (by decide)) ?_
  refine al_c (pc := 845) (snd_icmp_ge C dL_law_845 (by decide)) ?_
  refine al_c (pc := 848) (snd_iload C dL_law_848) ?_
  refine al_c (pc := 850) (snd_aload_n C dL_law_850 rfl) ?_
  refine al_c (pc := 851) (snd_iload C dL_law_851) ?_
  refine al_c (pc := 853) (snd_GXi C CX (xsite_V C rfl dL_law_853 gL_law_X3_paintOf rfl rfl rfl ⟨rfl, by decide +kernel, by decide +kernel, by decide +kernel⟩ ⟨by decide, by decide⟩) mX3_paintOf exN_FX) ?_
  refine al_c (pc := 856) (snd_iadd C dL_law_856) ?_
  refine al_c (pc := 857) (snd_istore C dL_law_857 (by decide)) ?_
  refine al_c (pc := 859) (snd_iinc C dL_law_859 (by decide) (by decide)) ?_
  refine al_c (pc := 862) (snd_goto C dL_law_862 (by decide)) ?_
  refine al_c (pc := 865) (snd_aload_n C dL_law_865 rfl) ?_
  refine al_c (pc := 866) (snd_Hi C (site_V C rfl dL_law_866 gL_law_X3_prints rfl rfl rfl ⟨rfl, by decide +kernel, by decide +kernel, by decide +kernel⟩ ⟨by decide, by decide⟩) mX3_prints) ?_
  refine al_c (pc := 869) (snd_istore C dL_law_869 (by decide)) ?_
  refine al_c (pc := 871) (snd_aload_n C dL_law_871 rfl) ?_
  refine al_c (pc := 872) (snd_aload_n C dL_law_872 rfl) ?_
  refine al_c (pc := 873) (snd_iload C dL_law_873) ?_
  refine al_c (pc := 875) (snd_Qi 0 C CX CN (site_S C dL_law_875 gL_law_L_goes rfl rfl rfl ⟨by decide +kernel, by decide +kernel, by decide +kernel⟩ ⟨by decide, by decide⟩) mL_goes) ?_
  refine al_c (pc := 878) (snd_if_eq C dL_law_878 (by decide)) ?_
  refine al_c (pc := 881) (snd_aload_n C dL_law_881 rfl) ?_
  refine al_c (pc := 882) (snd_aload_n C dL_law_882 rfl) ?_
  refine al_c (pc := 883) (snd_iload C dL_law_883) ?_
  refine al_c (pc := 885) (snd_iconst C dL_law_885 (by decide)) ?_
  refine al_c (pc := 886) (snd_iadd C dL_law_886) ?_
  refine al_c (pc := 887) (snd_iconst C dL_law_887 (by decide)) ?_
  refine al_c (pc := 888) (snd_irem C dL_law_888) ?_
  refine al_c (pc := 889) (snd_Qi 0 C CX CN (site_S C dL_law_889 gL_law_L_goes rfl rfl rfl ⟨by decide +kernel, by decide +kernel, by decide +kernel⟩ ⟨by decide, by decide⟩) mL_goes) ?_
  refine al_c (pc := 892) (snd_if_eq C dL_law_892 (by decide)) ?_
  refine al_c (pc := 895) (snd_aload_n C dL_law_895 rfl) ?_
  refine al_c (pc := 896) (snd_Hi C (site_V C rfl dL_law_896 gL_law_X3_top rfl rfl rfl ⟨rfl, by decide +kernel, by decide +kernel, by decide +kernel⟩ ⟨by decide, by decide⟩) mX3_top) ?_
  refine al_c (pc := 899) (snd_iload C dL_law_899) ?_
  refine al_c (pc := 901) (snd_icmp_ne C dL_law_901 (by decide)) ?_
  refine al_c (pc := 904) (snd_aload_n C dL_law_904 rfl) ?_
  refine al_c (pc := 905) (snd_iconst C dL_law_905 (by decide)) ?_
  refine al_c (pc := 906) (snd_GXi C CX (xsite_V C rfl dL_law_906 gL_law_X3_faceTo rfl rfl rfl ⟨rfl, by decide +kernel, by decide +kernel, by decide +kernel⟩ ⟨by decide, by decide⟩) mX3_faceTo exN_FX) ?_
  refine al_c (pc := 909) (snd_iload C dL_law_909) ?_
  refine al_c (pc := 911) (snd_icmp_eq C dL_law_911 (by decide)) ?_
  refine al_c (pc := 914) (snd_iconst C dL_law_914 (by decide)) ?_
  refine al_c (pc := 915) (snd_Lr C hL dL_law_915) ?_
  refine al_c (pc := 916) (snd_iconst C dL_law_916 (by decide)) ?_
  refine al_c (pc := 917) (snd_istore C dL_law_917 (by decide)) ?_
  refine al_c (pc := 919) (snd_iload C dL_law_919) ?_
  refine al_c (pc := 921) (snd_bipush C dL_law_921 (by decide)) ?_
  refine al_c (pc := 923) (snd_icmp_ge C dL_law_923 (by decide)) ?_
  refine al_c (pc := 926) (snd_iload C dL_law_926) ?_
  refine al_c (pc := 928) (snd_aload_n C dL_law_928 rfl) ?_
  refine al_c (pc := 929) (snd_iload C dL_law_929) ?_
  refine al_c (pc := 931) (snd_GXi C CX (xsite_V C rfl dL_law_931 gL_law_X3_paintOf rfl rfl rfl ⟨rfl, by decide +kernel, by decide +kernel, by decide +kernel⟩ ⟨by decide, by decide⟩) mX3_paintOf exN_FX) ?_
  refine al_c (pc := 934) (snd_isub C dL_law_934) ?_
  refine al_c (pc := 935) (snd_istore C dL_law_935 (by decide)) ?_
  refine al_c (pc := 937) (snd_iinc C dL_law_937 (by decide) (by decide)) ?_
  refine al_c (pc := 940) (snd_goto C dL_law_940 (by decide)) ?_
  refine al_c (pc := 943) (snd_iload C dL_law_943) ?_
  refine al_c (pc := 945) (snd_aload_n C dL_law_945 rfl) ?_
  refine al_c (pc := 946) (snd_Hi C (site_V C rfl dL_law_946 gL_law_X3_prints rfl rfl rfl ⟨rfl, by decide +kernel, by decide +kernel, by decide +kernel⟩ ⟨by decide, by decide⟩) mX3_prints) ?_
  refine al_c (pc := 949) (snd_iload C dL_law_949) ?_
  refine al_c (pc := 951) (snd_isub C dL_law_951) ?_
  refine al_c (pc := 952) (snd_icmp_ne C dL_law_952 (by decide)) ?_
  refine al_c (pc := 955) (snd_iload C dL_law_955) ?_
  refine al_c (pc := 957) (snd_iconst C dL_law_957 (by decide)) ?_
  refine al_c (pc := 958) (snd_icmp_le C dL_law_958 (by decide)) ?_
  refine al_c (pc := 961) (snd_iconst C dL_law_961 (by decide)) ?_
  refine al_c (pc := 962) (snd_Lr C hL dL_law_962) ?_
  refine al_c (pc := 963) (snd_iinc C dL_law_963 (by decide) (by decide)) ?_
  refine al_c (pc := 966) (snd_goto C dL_law_966 (by decide)) ?_
  refine al_c (pc := 969) (snd_aload_n C dL_law_969 rfl) ?_
  refine al_c (pc := 970) (snd_aload_n C dL_law_970 rfl) ?_
  refine al_c (pc := 971) (snd_Qi 0 C CX CN (site_V C rfl dL_law_971 gL_law_X4_isSame rfl rfl rfl ⟨rfl, by decide +kernel, by decide +kernel, by decide +kernel⟩ ⟨by decide, by decide⟩) mX4_isSame) ?_
  refine al_c (pc := 974) (snd_Lr C hL dL_law_974) ?_
  exact al_0
theorem ck_i {b : Bool} {P : Prop} (h : b = true) (hp : P) : ck b P := by
  subst h
  exact hp
theorem FG_to {Γ : aΓ} {pc : Nat} {ad : Nat → Nat} {k n k' n' : Nat} {ls ls' : List (Nat × Value)} {st : List Value} {X : List aE} (ks : List Nat) (hl : lv_pick ls ks = ls') (hk : k ≤ k') (hn : n ≤ n') (h : FG Γ pc ad k' n' ls' st X) : FG Γ pc ad k n ls st X := FG_wid hk hn (FG_pick ks hl h)
