/-! ===== the law's act ===== -/
theorem nI_a1 (j : Nat) : 1 + nI j = nI (1 + j) := nI_add 1 j
theorem nI_a2 (j : Nat) : 2 + nI j = nI (2 + j) := nI_add 2 j
theorem k_newBoard (k tt w h : Nat) (rm pm fd : Int32) (wl pr fe qu co pa : Nat → Int32) (w2 h2 : Nat) (g1 : 2 ≤ w2) (g2 : w2 ≤ 7) (g3 : 2 ≤ h2) (g4 : h2 ≤ 7) : tX3_newBoard [.ref 0, .int (nI w2), .int (nI h2)] (CW (nI k) (nI tt) rm pm (nI w) (nI h) fd wl pr fe qu co pa) (fun r X2 => r = nI w2 * nI h2 ∧ ∃ wl2 pr2 : Nat → Int32, (∀ k, k < 49 → wl2 k = 0) ∧ (∀ k, k < 49 → pr2 k = 0) ∧ X2 = CW 0 1 0 0 (nI w2) (nI h2) fd wl2 pr2 fe qu co pa) (fun _ _ => False) :=
  ⟨_, _, k, tt, w, h, rm, pm, fd, wl, pr, fe, qu, co, pa, rfl, rfl, fun _ wl2 pr2 z1 z2 => ⟨rfl, wl2, pr2, z1, z2, rfl⟩, fun q => q ⟨inR_at g1 g2, inR_at g3 g4⟩⟩
def tnW (wl : Nat → Int32) (m : Nat) : Int32 := if wl m = 0 then 1 else 0
theorem k_turnWall (k tt w h : Nat) (rm pm fd : Int32) (wl pr fe qu co pa : Nat → Int32) (hw : w ≤ 7) (hh : h ≤ 7) (hk : k < 49) (m : Nat) (m1 : m % 7 < w) (m2 : m / 7 < h) (hmk : m ≠ k) : tX3_turnWall [.ref 0, .int (nI (m % 7)), .int (nI (m / 7))] (CW (nI k) (nI tt) rm pm (nI w) (nI h) fd wl pr fe qu co pa) (fun r X2 => r = tnW wl m ∧ X2 = CW (nI k) (nI tt) rm pm (nI w) (nI h) fd (upd wl m (tnW wl m)) pr fe qu co pa) (fun _ _ => False) :=
  ⟨_, _, k, tt, w, h, rm, pm, fd, wl, pr, fe, qu, co, pa, rfl, rfl, hw, hh, hk, fun q => q (inB_of m1 m2), fun i2 j2 e1 e2 h1 h2 => by
    rw [nIq (by omega) (by omega) e1, nIq (by omega) (by omega) e2, show m / 7 * 7 + m % 7 = m by omega]
    refine ⟨fun q => hmk q, fun _ => ⟨fun q => ?_, fun q => ?_⟩⟩
    · unfold tnW
      rw [if_pos q]
      exact ⟨rfl, rfl⟩
    · unfold tnW
      rw [if_neg q]
      exact ⟨rfl, rfl⟩⟩
theorem k_turnWallX (k tt w h : Nat) (rm pm fd : Int32) (wl pr fe qu co pa : Nat → Int32) (hw : w ≤ 7) (hh : h ≤ 7) (hk : k < 49) (m1 : k % 7 < w) (m2 : k / 7 < h) : tX3_turnWall [.ref 0, .int (nI (k % 7)), .int (nI (k / 7))] (CW (nI k) (nI tt) rm pm (nI w) (nI h) fd wl pr fe qu co pa) (fun _ _ => False) (fun e X2 => e = "java/lang/IllegalStateException" ∧ X2 = CW (nI k) (nI tt) rm pm (nI w) (nI h) fd wl pr fe qu co pa) :=
  ⟨_, _, k, tt, w, h, rm, pm, fd, wl, pr, fe, qu, co, pa, rfl, rfl, hw, hh, hk, fun q => (q (inB_of m1 m2)).elim, fun i2 j2 e1 e2 h1 h2 => by
    rw [nIq (by omega) (by omega) e1, nIq (by omega) (by omega) e2, show k / 7 * 7 + k % 7 = k by omega]
    exact ⟨fun _ => ⟨rfl, rfl⟩, fun q => absurd rfl q⟩⟩
theorem k_setColour (k tt w h : Nat) (rm pm fd : Int32) (wl pr fe qu co pa : Nat → Int32) (f b : Nat) (f1 : 1 ≤ f) (f6 : f ≤ 6) (b1 : 1 ≤ b) (b9 : b ≤ 9) : tX3_setColour [.ref 0, .int (nI f), .int (nI b)] (CW (nI k) (nI tt) rm pm (nI w) (nI h) fd wl pr fe qu co pa) (fun r X2 => r = co f ∧ X2 = CW (nI k) (nI tt) rm pm (nI w) (nI h) fd wl pr fe qu (upd co f (nI b)) pa) (fun _ _ => False) :=
  ⟨_, _, k, tt, w, h, rm, pm, fd, wl, pr, fe, qu, co, pa, rfl, rfl, fun q => q (inR_at f1 f6), fun f2 e h1 h2 => by
    rw [nIq (by omega) (by omega) e]
    exact ⟨fun q => q (inR_at b1 b9), fun _ => ⟨rfl, rfl⟩⟩⟩
theorem k_addPaint (k tt w h : Nat) (rm pm fd : Int32) (wl pr fe qu co pa : Nat → Int32) (f b : Nat) (f1 : 1 ≤ f) (f6 : f ≤ 6) (b1 : 1 ≤ b) (b20 : b ≤ 20) : tX3_addPaint [.ref 0, .int (nI f), .int (nI b)] (CW (nI k) (nI tt) rm pm (nI w) (nI h) fd wl pr fe qu co pa) (fun r X2 => r = adP pa f (nI b) ∧ X2 = CW (nI k) (nI tt) rm pm (nI w) (nI h) fd wl pr fe qu co (upd pa f (adP pa f (nI b)))) (fun _ _ => False) :=
  ⟨_, _, k, tt, w, h, rm, pm, fd, wl, pr, fe, qu, co, pa, rfl, rfl, fun q => q (inR_at f1 f6), fun f2 e h1 h2 => by
    rw [nIq (by omega) (by omega) e]
    exact ⟨fun q => q (inR_at b1 b20), fun _ => ⟨rfl, rfl⟩⟩⟩
theorem k_put (k tt w h : Nat) (rm pm fd : Int32) (wl pr fe qu co pa : Nat → Int32) (hw : w ≤ 7) (hh : h ≤ 7) (hk : k < 49) (m : Nat) (m1 : m % 7 < w) (m2 : m / 7 < h) (hm : wl m = 0) : tX3_put [.ref 0, .int (nI (m % 7)), .int (nI (m / 7))] (CW (nI k) (nI tt) rm pm (nI w) (nI h) fd wl pr fe qu co pa) (fun r X2 => r = abI (nI (m % 7) - nI (k % 7)) + abI (nI (m / 7) - nI (k / 7)) ∧ X2 = CW (nI m) 1 rm pm (nI w) (nI h) fd wl pr fe qu co pa) (fun _ _ => False) :=
  ⟨_, _, k, tt, w, h, rm, pm, fd, wl, pr, fe, qu, co, pa, rfl, rfl, hw, hh, hk, fun q => q (inB_of m1 m2), fun i2 j2 e1 e2 h1 h2 => by
    rw [nIq (by omega) (by omega) e1, nIq (by omega) (by omega) e2, show m / 7 * 7 + m % 7 = m by omega]
    exact ⟨fun q => q hm, fun _ => ⟨rfl, rfl⟩⟩⟩
theorem k_putX (k tt w h : Nat) (rm pm fd : Int32) (wl pr fe qu co pa : Nat → Int32) (hw : w ≤ 7) (hh : h ≤ 7) (hk : k < 49) (m : Nat) (m1 : m % 7 < w) (m2 : m / 7 < h) (hm : ¬ wl m = 0) : tX3_put [.ref 0, .int (nI (m % 7)), .int (nI (m / 7))] (CW (nI k) (nI tt) rm pm (nI w) (nI h) fd wl pr fe qu co pa) (fun _ _ => False) (fun e X2 => e = "java/lang/IllegalStateException" ∧ X2 = CW (nI k) (nI tt) rm pm (nI w) (nI h) fd wl pr fe qu co pa) :=
  ⟨_, _, k, tt, w, h, rm, pm, fd, wl, pr, fe, qu, co, pa, rfl, rfl, hw, hh, hk, fun q => (q (inB_of m1 m2)).elim, fun i2 j2 e1 e2 h1 h2 => by
    rw [nIq (by omega) (by omega) e1, nIq (by omega) (by omega) e2, show m / 7 * 7 + m % 7 = m by omega]
    exact ⟨fun _ => ⟨rfl, rfl⟩, fun q => absurd q hm⟩⟩
theorem k_rollX (k tt w h : Nat) (rm pm fd : Int32) (wl pr fe qu co pa : Nat → Int32) (hw : w ≤ 7) (hh : h ≤ 7) (hk : k < 49) (hv : vt tt = true) (d : Nat) (hd : d < 4) (hm : nxt w h wl k d = none) : tX3_roll [.ref 0, .int (nI d)] (CW (nI k) (nI tt) rm pm (nI w) (nI h) fd wl pr fe qu co pa) (fun _ _ => False) (fun e X2 => e = "java/lang/IllegalStateException" ∧ X2 = CW (nI k) (nI tt) rm pm (nI w) (nI h) fd wl pr fe qu co pa) := ⟨_, k, tt, w, h, rm, pm, fd, wl, pr, fe, qu, co, pa, rfl, rfl, hw, hh, hk, hv, fun q => (q (inR_at (Nat.zero_le _) (by omega))).elim, fun d2 e h1 => by
  rw [nIq (by omega) (by omega) e]
  refine ⟨fun _ => ⟨rfl, rfl⟩, fun j q => ?_⟩
  rw [hm] at q
  cases q⟩
theorem k_rollOn (k tt w h : Nat) (rm pm fd : Int32) (wl pr fe qu co pa : Nat → Int32) (hw : w ≤ 7) (hh : h ≤ 7) (hk : k < 49) (hv : vt tt = true) (d n : Nat) (hd : d < 4) (n1 : 1 ≤ n) (n50 : n ≤ 50) (m : Nat) (k2 t2 : Nat) (rm2 pm2 : Int32) (pr2 pa2 : Nat → Int32) (hr : rollK w h wl co d n (k, tt, rm, pm, pr, pa) = (m, k2, t2, rm2, pm2, pr2, pa2)) : tX3_rollOn2 [.ref 0, .int (nI d), .int (nI n)] (CW (nI k) (nI tt) rm pm (nI w) (nI h) fd wl pr fe qu co pa) (fun r X2 => r = nI m ∧ X2 = CW (nI k2) (nI t2) rm2 pm2 (nI w) (nI h) fd wl pr2 fe qu co pa2) (fun _ _ => False) :=
  ⟨_, _, k, tt, w, h, rm, pm, fd, wl, pr, fe, qu, co, pa, rfl, rfl, hw, hh, hk, hv, fun q => q (inR_at (Nat.zero_le _) (by omega)), fun d2 e h1 => by
    rw [nIq (by omega) (by omega) e]
    refine ⟨fun q => q (inR_at n1 n50), fun n2 e2 g1 g2 m9 k9 t9 rm9 pm9 pr9 pa9 hr9 => ?_⟩
    rw [nIq (by omega) (by omega) e2, hr] at hr9
    cases hr9
    exact ⟨rfl, rfl⟩⟩
theorem rollK_no {w h d g : Nat} {wl co : Nat → Int32} {s : dS} (e : stepD w h wl co d s = none) : rollK w h wl co d (g + 1) s = (0, s) := by
  show (match stepD w h wl co d s with | none => (0, s) | some s2 => ((rollK w h wl co d g s2).1 + 1, (rollK w h wl co d g s2).2)) = _
  rw [e]
theorem rollK_so {w h d g : Nat} {wl co : Nat → Int32} {s s2 : dS} (e : stepD w h wl co d s = some s2) : rollK w h wl co d (g + 1) s = ((rollK w h wl co d g s2).1 + 1, (rollK w h wl co d g s2).2) := by
  show (match stepD w h wl co d s with | none => (0, s) | some s2 => ((rollK w h wl co d g s2).1 + 1, (rollK w h wl co d g s2).2)) = _
  rw [e]
abbrev NL_act : List aE → Nat := fun _ => 10
abbrev tL_act : aTi := fun av X post => ∃ (B k t w h rN pN : Nat) (v fd : Int32) (wl pr fe qu co pa : Nat → Int32) (fw fp : Nat → Nat → Int32) (cs as df : Nat → Int32), av = [.ref 0, .ref 9, .int v] ∧ X = CW (nI k) (nI t) (nI rN) (nI pN) (nI w) (nI h) fd wl pr fe qu co pa ++ Zs w h rN pN k fw fp cs as df ∧ B ≤ 8000 ∧ IVd B k t w h rN pN wl pr co pa fw fp cs as df ∧
  ∀ (k2 t2 w2 h2 rN2 pN2 : Nat) (fd2 : Int32) (wl2 pr2 fe2 qu2 co2 pa2 : Nat → Int32) (fw2 fp2 : Nat → Nat → Int32) (cs2 as2 df2 : Nat → Int32), IVd (B + 50) k2 t2 w2 h2 rN2 pN2 wl2 pr2 co2 pa2 fw2 fp2 cs2 as2 df2 → post 1 (CW (nI k2) (nI t2) (nI rN2) (nI pN2) (nI w2) (nI h2) fd2 wl2 pr2 fe2 qu2 co2 pa2 ++ Zs w2 h2 rN2 pN2 k2 fw2 fp2 cs2 as2 df2)
abbrev rmL_act : Room := { frames := 8, cells := 60, slots := 400, locals := 135 }
theorem inL_act_X4 : ∀ w ∈ wsX40, w ∈ wsL_act := by decide +kernel
def tbL_act (Γ : aΓ) (post : Int32 → List aE → Prop) (ad0 : Nat → Nat) (N0 : Nat) : List (Nat × aO) := [(0, oIL 2 1),
  (1, oC (4) 2),
  (2, oIshr 3),
  (3, oAL 1 4),
  (4, oGet 3 0 7),
  (7, oBi tL_below 2 rmL_below.cells rmL_below.slots 60 400 10),
  (10, oIS 3 11),
  (11, oIL 2 12),
  (12, oC (6) 14),
  (14, oIshr 15),
  (15, oAL 1 16),
  (16, oGet 3 1 19),
  (19, oBi tL_below 2 rmL_below.cells rmL_below.slots 60 400 22),
  (22, oIS 4 24),
  (24, oC (1) 25),
  (25, oIL 2 26),
  (26, oC (5) 27),
  (27, oIshr 28),
  (28, oC (6) 30),
  (30, oBi tL_below 2 rmL_below.cells rmL_below.slots 60 400 33),
  (33, oIadd 34),
  (34, oIS 5 36),
  (36, oIL 2 37),
  (37, oC (16) 39),
  (39, oBi tL_below 2 rmL_below.cells rmL_below.slots 60 400 42),
  (42, oSw [(0, 92), (1, 160), (2, 160), (3, 258), (4, 309), (5, 309), (6, 382), (7, 471), (8, 471)] 551),
  (92, oIL 2 93),
  (93, oC (8) 95),
  (95, oIshr 96),
  (96, oC (5) 97),
  (97, oBi tL_below 2 rmL_below.cells rmL_below.slots 60 400 100),
  (100, oIf_le 105 103),
  (103, oC (1) 104),
  (104, oNz post ad0 N0 60 400),
  (105, oAL 1 106),
  (106, oC (2) 107),
  (107, oIL 2 108),
  (108, oC (4) 109),
  (109, oIshr 110),
  (110, oC (6) 112),
  (112, oBi tL_below 2 rmL_below.cells rmL_below.slots 60 400 115),
  (115, oIadd 116),
  (116, oC (2) 117),
  (117, oIL 2 118),
  (118, oC (6) 120),
  (120, oIshr 121),
  (121, oC (6) 123),
  (123, oBi tL_below 2 rmL_below.cells rmL_below.slots 60 400 126),
  (126, oIadd 127),
  (127, oQv ad0 9 NX4_board tX4_board 3 (some 3) rmX4_board.cells rmX4_board.slots 60 400 130),
  (130, oAL 0 131),
  (131, oAL 1 132),
  (132, oGet 3 0 135),
  (135, oAL 1 136),
  (136, oGet 3 1 139),
  (139, oGXi tX3_newBoard 3 2 rmX3_newBoard.cells rmX3_newBoard.slots 60 400 142 exN),
  (142, oAL 1 143),
  (143, oGet 3 0 146),
  (146, oAL 1 147),
  (147, oGet 3 1 150),
  (150, oImul 151),
  (151, oIc_ne 158 154),
  (154, oC (1) 155),
  (155, oGo 159),
  (158, oC (0) 159),
  (159, oNz post ad0 N0 60 400),
  (160, oIL 3 161),
  (161, oAL 1 162),
  (162, oGet 3 8 165),
  (165, oIc_ne 177 168),
  (168, oIL 4 170),
  (170, oAL 1 171),
  (171, oGet 3 9 174),
  (174, oIc_eq 181 177),
  (177, oC (1) 178),
  (178, oGo 182),
  (181, oC (0) 182),
  (182, oIS 6 184),
  (184, oIL 6 186),
  (186, oIf_eq 215 189),
  (189, oAL 1 190),
  (190, oGet 3 2 193),
  (193, oIL 3 194),
  (194, oAald 195),
  (195, oIL 4 197),
  (197, oAL 1 198),
  (198, oGet 3 2 201),
  (201, oIL 3 202),
  (202, oAald 203),
  (203, oIL 4 205),
  (205, oZald 206),
  (206, oIf_ne 213 209),
  (209, oC (1) 210),
  (210, oGo 214),
  (213, oC (0) 214),
  (214, oZast 215),
  (215, oAL 0 216),
  (216, oIL 3 217),
  (217, oIL 4 219),
  (219, oGXi tX3_turnWall 3 2 rmX3_turnWall.cells rmX3_turnWall.slots 60 400 222 (exH Γ "java/lang/IllegalStateException" 245)),
  (222, oAL 1 223),
  (223, oGet 3 2 226),
  (226, oIL 3 227),
  (227, oAald 228),
  (228, oIL 4 230),
  (230, oZald 231),
  (231, oIc_ne 243 234),
  (234, oIL 6 236),
  (236, oIf_eq 243 239),
  (239, oC (1) 240),
  (240, oGo 244),
  (243, oC (0) 244),
  (244, oNz post ad0 N0 60 400),
  (245, oAS 7 247),
  (247, oIL 6 249),
  (249, oIf_ne 256 252),
  (252, oC (1) 253),
  (253, oGo 257),
  (256, oC (0) 257),
  (257, oNz post ad0 N0 60 400),
  (258, oAL 1 259),
  (259, oGet 3 4 262),
  (262, oIL 5 264),
  (264, oIald 265),
  (265, oIS 6 267),
  (267, oAL 1 268),
  (268, oGet 3 4 271),
  (271, oIL 5 273),
  (273, oC (1) 274),
  (274, oIL 2 275),
  (275, oC (8) 277),
  (277, oIshr 278),
  (278, oC (9) 280),
  (280, oBi tL_below 2 rmL_below.cells rmL_below.slots 60 400 283),
  (283, oIadd 284),
  (284, oIast 285),
  (285, oAL 0 286),
  (286, oIL 5 288),
  (288, oAL 1 289),
  (289, oGet 3 4 292),
  (292, oIL 5 294),
  (294, oIald 295),
  (295, oGXi tX3_setColour 3 2 rmX3_setColour.cells rmX3_setColour.slots 60 400 298 exN),
  (298, oIL 6 300),
  (300, oIc_ne 307 303),
  (303, oC (1) 304),
  (304, oGo 308),
  (307, oC (0) 308),
  (308, oNz post ad0 N0 60 400),
  (309, oC (1) 310),
  (310, oIL 2 311),
  (311, oC (8) 313),
  (313, oIshr 314),
  (314, oIL 2 315),
  (315, oC (3) 316),
  (316, oIshr 317),
  (317, oC (3) 318),
  (318, oBi tL_below 2 rmL_below.cells rmL_below.slots 60 400 321),
  (321, oIf_ne 329 324),
  (324, oC (20) 326),
  (326, oGo 330),
  (329, oC (4) 330),
  (330, oBi tL_below 2 rmL_below.cells rmL_below.slots 60 400 333),
  (333, oIadd 334),
  (334, oIS 6 336),
  (336, oAL 1 337),
  (337, oGet 3 5 340),
  (340, oIL 5 342),
  (342, oC (20) 344),
  (344, oAL 1 345),
  (345, oGet 3 5 348),
  (348, oIL 5 350),
  (350, oIald 351),
  (351, oIL 6 353),
  (353, oIadd 354),
  (354, oMin 357 60 400),
  (357, oIast 358),
  (358, oAL 0 359),
  (359, oIL 5 361),
  (361, oIL 6 363),
  (363, oGXi tX3_addPaint 3 2 rmX3_addPaint.cells rmX3_addPaint.slots 60 400 366 exN),
  (366, oAL 1 367),
  (367, oGet 3 5 370),
  (370, oIL 5 372),
  (372, oIald 373),
  (373, oIc_ne 380 376),
  (376, oC (1) 377),
  (377, oGo 381),
  (380, oC (0) 381),
  (381, oNz post ad0 N0 60 400),
  (382, oAL 1 383),
  (383, oGet 3 2 386),
  (386, oIL 3 387),
  (387, oAald 388),
  (388, oIL 4 390),
  (390, oZald 391),
  (391, oIf_ne 398 394),
  (394, oC (1) 395),
  (395, oGo 399),
  (398, oC (0) 399),
  (399, oIS 6 401),
  (401, oIL 3 402),
  (402, oAL 1 403),
  (403, oGet 3 8 406),
  (406, oIsub 407),
  (407, oAbs 410 60 400),
  (410, oIL 4 412),
  (412, oAL 1 413),
  (413, oGet 3 9 416),
  (416, oIsub 417),
  (417, oAbs 420 60 400),
  (420, oIadd 421),
  (421, oIS 7 423),
  (423, oIL 6 425),
  (425, oIf_eq 435 428),
  (428, oAL 1 429),
  (429, oIL 3 430),
  (430, oIL 4 432),
  (432, oQv ad0 9 NX4_put2 tX4_put2 3 (some 3) rmX4_put.cells rmX4_put.slots 60 400 435),
  (435, oAL 0 436),
  (436, oIL 3 437),
  (437, oIL 4 439),
  (439, oGXi tX3_put 3 2 rmX3_put.cells rmX3_put.slots 60 400 442 (exH Γ "java/lang/IllegalStateException" 458)),
  (442, oIL 7 444),
  (444, oIc_ne 456 447),
  (447, oIL 6 449),
  (449, oIf_eq 456 452),
  (452, oC (1) 453),
  (453, oGo 457),
  (456, oC (0) 457),
  (457, oNz post ad0 N0 60 400),
  (458, oAS 8 460),
  (460, oIL 6 462),
  (462, oIf_ne 469 465),
  (465, oC (1) 466),
  (466, oGo 470),
  (469, oC (0) 470),
  (470, oNz post ad0 N0 60 400),
  (471, oIL 2 472),
  (472, oC (4) 473),
  (473, oIshr 474),
  (474, oC (4) 475),
  (475, oBi tL_below 2 rmL_below.cells rmL_below.slots 60 400 478),
  (478, oIS 6 480),
  (480, oC (1) 481),
  (481, oIL 2 482),
  (482, oC (7) 484),
  (484, oIshr 485),
  (485, oIL 2 486),
  (486, oC (3) 487),
  (487, oIshr 488),
  (488, oC (4) 489),
  (489, oBi tL_below 2 rmL_below.cells rmL_below.slots 60 400 492),
  (492, oIf_ne 500 495),
  (495, oC (50) 497),
  (497, oGo 501),
  (500, oC (4) 501),
  (501, oBi tL_below 2 rmL_below.cells rmL_below.slots 60 400 504),
  (504, oIadd 505),
  (505, oIS 7 507),
  (507, oC (0) 508),
  (508, oIS 8 510),
  (510, oIL 8 512),
  (512, oIL 7 514),
  (514, oIc_ge 532 517),
  (517, oAL 1 518),
  (518, oIL 6 520),
  (520, oQi ad0 9 NX4_roll tX4_roll 2 (some 3) rmX4_roll.cells rmX4_roll.slots 60 400 523),
  (523, oIf_eq 532 526),
  (526, oInc 8 1 529),
  (529, oGo 510),
  (532, oAL 0 533),
  (533, oIL 6 535),
  (535, oIL 7 537),
  (537, oGXi tX3_rollOn2 3 2 rmX3_rollOn.cells rmX3_rollOn.slots 60 400 540 exN),
  (540, oIL 8 542),
  (542, oIc_ne 549 545),
  (545, oC (1) 546),
  (546, oGo 550),
  (549, oC (0) 550),
  (550, oNz post ad0 N0 60 400),
  (551, oIL 2 552),
  (552, oC (4) 553),
  (553, oIshr 554),
  (554, oC (4) 555),
  (555, oBi tL_below 2 rmL_below.cells rmL_below.slots 60 400 558),
  (558, oIS 6 560),
  (560, oAL 1 561),
  (561, oIL 6 563),
  (563, oQi ad0 9 NX4_roll tX4_roll 2 (some 3) rmX4_roll.cells rmX4_roll.slots 60 400 566),
  (566, oIS 7 568),
  (568, oAL 0 569),
  (569, oIL 6 571),
  (571, oGXi tX3_roll 2 2 rmX3_roll.cells rmX3_roll.slots 60 400 574 (exH Γ "java/lang/IllegalStateException" 594)),
  (574, oAL 1 575),
  (575, oGet 3 10 578),
  (578, oC (1) 579),
  (579, oIald 580),
  (580, oIc_ne 592 583),
  (583, oIL 7 585),
  (585, oIf_eq 592 588),
  (588, oC (1) 589),
  (589, oGo 593),
  (592, oC (0) 593),
  (593, oNz post ad0 N0 60 400),
  (594, oAS 8 596),
  (596, oIL 7 598),
  (598, oIf_ne 605 601),
  (601, oC (1) 602),
  (602, oGo 606),
  (605, oC (0) 606),
  (606, oNz post ad0 N0 60 400)]
set_option maxRecDepth 20000 in
theorem okL_act {Γ : aΓ} {post : Int32 → List aE → Prop} {ad0 : Nat → Nat} {X0 : List aE} {N0 : Nat} (C : FOK Γ cL_act wsL_act RL 9 rmL_act) (CX : FOX Γ) (CN : FON ad0 Γ) (hT : isTb Γ [(215, 244, 245, 47), (435, 457, 458, 47), (568, 593, 594, 47)]) (hQ : isQ Γ (va_Qi (fun r (u : (Nat → Nat) × List aE) => post r u.2) (aBn (gK Γ) ad0 X0 (hsz Γ) N0) (aA (gK Γ) ad0 X0 (hsz Γ))) rmL_act ad0 X0) (hr : rTy Γ = some .boolean) : AllS Γ (tbL_act Γ post ad0 N0) := by
  unfold tbL_act
  refine al_c (pc := 0) (snd_iload_n C dL_act_0 rfl) ?_
  refine al_c (pc := 1) (snd_iconst C dL_act_1 (by decide)) ?_
  refine al_c (pc := 2) (snd_ishr C dL_act_2) ?_
  refine al_c (pc := 3) (snd_aload_n C dL_act_3 rfl) ?_
  refine al_c (pc := 4) (snd_get C dL_act_4 (ci := 3) (kf := 0) rfl (by decide) inL_act_X4 rfl (by decide +kernel)) ?_
  refine al_c (pc := 7) (snd_Bi C (site_S C dL_act_7 gL_act_L_below rfl rfl rfl ⟨by decide +kernel, by decide +kernel, by decide +kernel⟩ ⟨by decide, by decide⟩) mL_below) ?_
  refine al_c (pc := 10) (snd_istore_n C dL_act_10 rfl (by decide)) ?_
  refine al_c (pc := 11) (snd_iload_n C dL_act_11 rfl) ?_
  refine al_c (pc := 12) (snd_bipush C dL_act_12 (by decide)) ?_
  refine al_c (pc := 14) (snd_ishr C dL_act_14) ?_
  refine al_c (pc := 15) (snd_aload_n C dL_act_15 rfl) ?_
  refine al_c (pc := 16) (snd_get C dL_act_16 (ci := 3) (kf := 1) rfl (by decide) inL_act_X4 rfl (by decide +kernel)) ?_
  refine al_c (pc := 19) (snd_Bi C (site_S C dL_act_19 gL_act_L_below rfl rfl rfl ⟨by decide +kernel, by decide +kernel, by decide +kernel⟩ ⟨by decide, by decide⟩) mL_below) ?_
  refine al_c (pc := 22) (snd_istore C dL_act_22 (by decide)) ?_
  refine al_c (pc := 24) (snd_iconst C dL_act_24 (by decide)) ?_
  refine al_c (pc := 25) (snd_iload_n C dL_act_25 rfl) ?_
  refine al_c (pc := 26) (snd_iconst C dL_act_26 (by decide)) ?_
  refine al_c (pc := 27) (snd_ishr C dL_act_27) ?_
  refine al_c (pc := 28) (snd_bipush C dL_act_28 (by decide)) ?_
  refine al_c (pc := 30) (snd_Bi C (site_S C dL_act_30 gL_act_L_below rfl rfl rfl ⟨by decide +kernel, by decide +kernel, by decide +kernel⟩ ⟨by decide, by decide⟩) mL_below) ?_
  refine al_c (pc := 33) (snd_iadd C dL_act_33) ?_
  refine al_c (pc := 34) (snd_istore C dL_act_34 (by decide)) ?_
  refine al_c (pc := 36) (snd_iload_n C dL_act_36 rfl) ?_
  refine al_c (pc := 37) (snd_bipush C dL_act_37 (by decide)) ?_
  refine al_c (pc := 39) (snd_Bi C (site_S C dL_act_39 gL_act_L_below rfl rfl rfl ⟨by decide +kernel, by decide +kernel, by decide +kernel⟩ ⟨by decide, by decide⟩) mL_below) ?_
  refine al_c (pc := 42) (snd_sw C dL_act_42 (by decide) (by decide) (fun x h1 h2 => sw_in9 x h1 h2)) ?_
  refine al_c (pc := 92) (snd_iload_n C dL_act_92 rfl) ?_
  refine al_c (pc := 93) (snd_bipush C dL_act_93 (by decide)) ?_
  refine al_c (pc := 95) (snd_ishr C dL_act_95) ?_
  refine al_c (pc := 96) (snd_iconst C dL_act_96 (by decide)) ?_
  refine al_c (pc := 97) (snd_Bi C (site_S C dL_act_97 gL_act_L_below rfl rfl rfl ⟨by decide +kernel, by decide +kernel, by decide +kernel⟩ ⟨by decide, by decide⟩) mL_below) ?_
  refine al_c (pc := 100) (snd_if_le C dL_act_100 (by decide)) ?_
  refine al_c (pc := 103) (snd_iconst C dL_act_103 (by decide)) ?_
  refine al_c (pc := 104) (snd_Nz C hQ hr dL_act_104) ?_
  refine al_c (pc := 105) (snd_aload_n C dL_act_105 rfl) ?_
  refine al_c (pc := 106) (snd_iconst C dL_act_106 (by decide)) ?_
  refine al_c (pc := 107) (snd_iload_n C dL_act_107 rfl) ?_
  refine al_c (pc := 108) (snd_iconst C dL_act_108 (by decide)) ?_
  refine al_c (pc := 109) (snd_ishr C dL_act_109) ?_
  refine al_c (pc := 110) (snd_bipush C dL_act_110 (by decide)) ?_
  refine al_c (pc := 112) (snd_Bi C (site_S C dL_act_112 gL_act_L_below rfl rfl rfl ⟨by decide +kernel, by decide +kernel, by decide +kernel⟩ ⟨by decide, by decide⟩) mL_below) ?_
  refine al_c (pc := 115) (snd_iadd C dL_act_115) ?_
  refine al_c (pc := 116) (snd_iconst C dL_act_116 (by decide)) ?_
  refine al_c (pc := 117) (snd_iload_n C dL_act_117 rfl) ?_
  refine al_c (pc := 118) (snd_bipush C dL_act_118 (by decide)) ?_
  refine al_c (pc := 120) (snd_ishr C dL_act_120) ?_
  refine al_c (pc := 121) (snd_bipush C dL_act_121 (by decide)) ?_
  refine al_c (pc := 123) (snd_Bi C (site_S C dL_act_123 gL_act_L_below rfl rfl rfl ⟨by decide +kernel, by decide +kernel, by decide +kernel⟩ ⟨by decide, by decide⟩) mL_below) ?_
  refine al_c (pc := 126) (snd_iadd C dL_act_126) ?_
  refine al_c (pc := 127) (snd_Qv 9 C CX CN (site_V C rfl dL_act_127 gL_act_X4_board rfl rfl rfl ⟨rfl, by decide +kernel, by decide +kernel, by decide +kernel⟩ ⟨by decide, by decide⟩) mX4_board) ?_
  refine al_c (pc := 130) (snd_aload_n C dL_act_130 rfl) ?_
  refine al_c (pc := 131) (snd_aload_n C dL_act_131 rfl) ?_
  refine al_c (pc := 132) (snd_get C dL_act_132 (ci := 3) (kf := 0) rfl (by decide) inL_act_X4 rfl (by decide +kernel)) ?_
  refine al_c (pc := 135) (snd_aload_n C dL_act_135 rfl) ?_
  refine al_c (pc := 136) (snd_get C dL_act_136 (ci := 3) (kf := 1) rfl (by decide) inL_act_X4 rfl (by decide +kernel)) ?_
  refine al_c (pc := 139) (snd_GXi C CX (xsite_V C rfl dL_act_139 gL_act_X3_newBoard rfl rfl rfl ⟨rfl, by decide +kernel, by decide +kernel, by decide +kernel⟩ ⟨by decide, by decide⟩) mX3_newBoard exN_FX) ?_
  refine al_c (pc := 142) (snd_aload_n C dL_act_142 rfl) ?_
  refine al_c (pc := 143) (snd_get C dL_act_143 (ci := 3) (kf := 0) rfl (by decide) inL_act_X4 rfl (by decide +kernel)) ?_
  refine al_c (pc := 146) (snd_aload_n C dL_act_146 rfl) ?_
  refine al_c (pc := 147) (snd_get C dL_act_147 (ci := 3) (kf := 1) rfl (by decide) inL_act_X4 rfl (by decide +kernel)) ?_
  refine al_c (pc := 150) (snd_imul C dL_act_150) ?_
  refine al_c (pc := 151) (snd_icmp_ne C dL_act_151 (by decide)) ?_
  refine al_c (pc := 154) (snd_iconst C dL_act_154 (by decide)) ?_
  refine al_c (pc := 155) (snd_goto C dL_act_155 (by decide)) ?_
  refine al_c (pc := 158) (snd_iconst C dL_act_158 (by decide)) ?_
  refine al_c (pc := 159) (snd_Nz C hQ hr dL_act_159) ?_
  refine al_c (pc := 160) (snd_iload_n C dL_act_160 rfl) ?_
  refine al_c (pc := 161) (snd_aload_n C dL_act_161 rfl) ?_
  refine al_c (pc := 162) (snd_get C dL_act_162 (ci := 3) (kf := 8) rfl (by decide) inL_act_X4 rfl (by decide +kernel)) ?_
  refine al_c (pc := 165) (snd_icmp_ne C dL_act_165 (by decide)) ?_
  refine al_c (pc := 168) (snd_iload C dL_act_168) ?_
  refine al_c (pc := 170) (snd_aload_n C dL_act_170 rfl) ?_
  refine al_c (pc := 171) (snd_get C dL_act_171 (ci := 3) (kf := 9) rfl (by decide) inL_act_X4 rfl (by decide +kernel)) ?_
  refine al_c (pc := 174) (snd_icmp_eq C dL_act_174 (by decide)) ?_
  refine al_c (pc := 177) (snd_iconst C dL_act_177 (by decide)) ?_
  refine al_c (pc := 178) (snd_goto C dL_act_178 (by decide)) ?_
  refine al_c (pc := 181) (snd_iconst C dL_act_181 (by decide)) ?_
  refine al_c (pc := 182) (snd_istore C dL_act_182 (by decide)) ?_
  refine al_c (pc := 184) (snd_iload C dL_act_184) ?_
  refine al_c (pc := 186) (snd_if_eq C dL_act_186 (by decide)) ?_
  refine al_c (pc := 189) (snd_aload_n C dL_act_189 rfl) ?_
  refine al_c (pc := 190) (snd_get C dL_act_190 (ci := 3) (kf := 2) rfl (by decide) inL_act_X4 rfl (by decide +kernel)) ?_
  refine al_c (pc := 193) (snd_iload_n C dL_act_193 rfl) ?_
  refine al_c (pc := 194) (snd_aaload C dL_act_194) ?_
  refine al_c (pc := 195) (snd_iload C dL_act_195) ?_
  refine al_c (pc := 197) (snd_aload_n C dL_act_197 rfl) ?_
  refine al_c (pc := 198) (snd_get C dL_act_198 (ci := 3) (kf := 2) rfl (by decide) inL_act_X4 rfl (by decide +kernel)) ?_
  refine al_c (pc := 201) (snd_iload_n C dL_act_201 rfl) ?_
  refine al_c (pc := 202) (snd_aaload C dL_act_202) ?_
  refine al_c (pc := 203) (snd_iload C dL_act_203) ?_
  refine al_c (pc := 205) (snd_baload C dL_act_205) ?_
  refine al_c (pc := 206) (snd_if_ne C dL_act_206 (by decide)) ?_
  refine al_c (pc := 209) (snd_iconst C dL_act_209 (by decide)) ?_
  refine al_c (pc := 210) (snd_goto C dL_act_210 (by decide)) ?_
  refine al_c (pc := 213) (snd_iconst C dL_act_213 (by decide)) ?_
  refine al_c (pc := 214) (snd_bastore C dL_act_214) ?_
  refine al_c (pc := 215) (snd_aload_n C dL_act_215 rfl) ?_
  refine al_c (pc := 216) (snd_iload_n C dL_act_216 rfl) ?_
  refine al_c (pc := 217) (snd_iload C dL_act_217) ?_
  refine al_c (pc := 219) (snd_GXi C CX (xsite_V C rfl dL_act_219 gL_act_X3_turnWall rfl rfl rfl ⟨rfl, by decide +kernel, by decide +kernel, by decide +kernel⟩ ⟨by decide, by decide⟩) mX3_turnWall (exH_FX (x := ⟨215, 244, 245, 47⟩) (pre := []) (suf := [⟨435, 457, 458, 47⟩, ⟨568, 593, 594, 47⟩]) C hT rfl (fun z hz => by cases hz) rfl (by decide) (by decide +kernel) (by decide +kernel) rfl)) ?_
  refine al_c (pc := 222) (snd_aload_n C dL_act_222 rfl) ?_
  refine al_c (pc := 223) (snd_get C dL_act_223 (ci := 3) (kf := 2) rfl (by decide) inL_act_X4 rfl (by decide +kernel)) ?_
  refine al_c (pc := 226) (snd_iload_n C dL_act_226 rfl) ?_
  refine al_c (pc := 227) (snd_aaload C dL_act_227) ?_
  refine al_c (pc := 228) (snd_iload C dL_act_228) ?_
  refine al_c (pc := 230) (snd_baload C dL_act_230) ?_
  refine al_c (pc := 231) (snd_icmp_ne C dL_act_231 (by decide)) ?_
  refine al_c (pc := 234) (snd_iload C dL_act_234) ?_
  refine al_c (pc := 236) (snd_if_eq C dL_act_236 (by decide)) ?_
  refine al_c (pc := 239) (snd_iconst C dL_act_239 (by decide)) ?_
  refine al_c (pc := 240) (snd_goto C dL_act_240 (by decide)) ?_
  refine al_c (pc := 243) (snd_iconst C dL_act_243 (by decide)) ?_
  refine al_c (pc := 244) (snd_Nz C hQ hr dL_act_244) ?_
  refine al_c (pc := 245) (snd_astore C dL_act_245 (by decide)) ?_
  refine al_c (pc := 247) (snd_iload C dL_act_247) ?_
  refine al_c (pc := 249) (snd_if_ne C dL_act_249 (by decide)) ?_
  refine al_c (pc := 252) (snd_iconst C dL_act_252 (by decide)) ?_
  refine al_c (pc := 253) (snd_goto C dL_act_253 (by decide)) ?_
  refine al_c (pc := 256) (snd_iconst C dL_act_256 (by decide)) ?_
  refine al_c (pc := 257) (snd_Nz C hQ hr dL_act_257) ?_
  refine al_c (pc := 258) (snd_aload_n C dL_act_258 rfl) ?_
  refine al_c (pc := 259) (snd_get C dL_act_259 (ci := 3) (kf := 4) rfl (by decide) inL_act_X4 rfl (by decide +kernel)) ?_
  refine al_c (pc := 262) (snd_iload C dL_act_262) ?_
  refine al_c (pc := 264) (snd_iaload C dL_act_264) ?_
  refine al_c (pc := 265) (snd_istore C dL_act_265 (by decide)) ?_
  refine al_c (pc := 267) (snd_aload_n C dL_act_267 rfl) ?_
  refine al_c (pc := 268) (snd_get C dL_act_268 (ci := 3) (kf := 4) rfl (by decide) inL_act_X4 rfl (by decide +kernel)) ?_
  refine al_c (pc := 271) (snd_iload C dL_act_271) ?_
  refine al_c (pc := 273) (snd_iconst C dL_act_273 (by decide)) ?_
  refine al_c (pc := 274) (snd_iload_n C dL_act_274 rfl) ?_
  refine al_c (pc := 275) (snd_bipush C dL_act_275 (by decide)) ?_
  refine al_c (pc := 277) (snd_ishr C dL_act_277) ?_
  refine al_c (pc := 278) (snd_bipush C dL_act_278 (by decide)) ?_
  refine al_c (pc := 280) (snd_Bi C (site_S C dL_act_280 gL_act_L_below rfl rfl rfl ⟨by decide +kernel, by decide +kernel, by decide +kernel⟩ ⟨by decide, by decide⟩) mL_below) ?_
  refine al_c (pc := 283) (snd_iadd C dL_act_283) ?_
  refine al_c (pc := 284) (snd_iastore C dL_act_284) ?_
  refine al_c (pc := 285) (snd_aload_n C dL_act_285 rfl) ?_
  refine al_c (pc := 286) (snd_iload C dL_act_286) ?_
  refine al_c (pc := 288) (snd_aload_n C dL_act_288 rfl) ?_
  refine al_c (pc := 289) (snd_get C dL_act_289 (ci := 3) (kf := 4) rfl (by decide) inL_act_X4 rfl (by decide +kernel)) ?_
  refine al_c (pc := 292) (snd_iload C dL_act_292) ?_
  refine al_c (pc := 294) (snd_iaload C dL_act_294) ?_
  refine al_c (pc := 295) (snd_GXi C CX (xsite_V C rfl dL_act_295 gL_act_X3_setColour rfl rfl rfl ⟨rfl, by decide +kernel, by decide +kernel, by decide +kernel⟩ ⟨by decide, by decide⟩) mX3_setColour exN_FX) ?_
  refine al_c (pc := 298) (snd_iload C dL_act_298) ?_
  refine al_c (pc := 300) (snd_icmp_ne C dL_act_300 (by decide)) ?_
  refine al_c (pc := 303) (snd_iconst C dL_act_303 (by decide)) ?_
  refine al_c (pc := 304) (snd_goto C dL_act_304 (by decide)) ?_
  refine al_c (pc := 307) (snd_iconst C dL_act_307 (by decide)) ?_
  refine al_c (pc := 308) (snd_Nz C hQ hr dL_act_308) ?_
  refine al_c (pc := 309) (snd_iconst C dL_act_309 (by decide)) ?_
  refine al_c (pc := 310) (snd_iload_n C dL_act_310 rfl) ?_
  refine al_c (pc := 311) (snd_bipush C dL_act_311 (by decide)) ?_
  refine al_c (pc := 313) (snd_ishr C dL_act_313) ?_
  refine al_c (pc := 314) (snd_iload_n C dL_act_314 rfl) ?_
  refine al_c (pc := 315) (snd_iconst C dL_act_315 (by decide)) ?_
  refine al_c (pc := 316) (snd_ishr C dL_act_316) ?_
  refine al_c (pc := 317) (snd_iconst C dL_act_317 (by decide)) ?_
  refine al_c (pc := 318) (snd_Bi C (site_S C dL_act_318 gL_act_L_below rfl rfl rfl ⟨by decide +kernel, by decide +kernel, by decide +kernel⟩ ⟨by decide, by decide⟩) mL_below) ?_
  refine al_c (pc := 321) (snd_if_ne C dL_act_321 (by decide)) ?_
  refine al_c (pc := 324) (snd_bipush C dL_act_324 (by decide)) ?_
  refine al_c (pc := 326) (snd_goto C dL_act_326 (by decide)) ?_
  refine al_c (pc := 329) (snd_iconst C dL_act_329 (by decide)) ?_
  refine al_c (pc := 330) (snd_Bi C (site_S C dL_act_330 gL_act_L_below rfl rfl rfl ⟨by decide +kernel, by decide +kernel, by decide +kernel⟩ ⟨by decide, by decide⟩) mL_below) ?_
  refine al_c (pc := 333) (snd_iadd C dL_act_333) ?_
  refine al_c (pc := 334) (snd_istore C dL_act_334 (by decide)) ?_
  refine al_c (pc := 336) (snd_aload_n C dL_act_336 rfl) ?_
  refine al_c (pc := 337) (snd_get C dL_act_337 (ci := 3) (kf := 5) rfl (by decide) inL_act_X4 rfl (by decide +kernel)) ?_
  refine al_c (pc := 340) (snd_iload C dL_act_340) ?_
  refine al_c (pc := 342) (snd_bipush C dL_act_342 (by decide)) ?_
  refine al_c (pc := 344) (snd_aload_n C dL_act_344 rfl) ?_
  refine al_c (pc := 345) (snd_get C dL_act_345 (ci := 3) (kf := 5) rfl (by decide) inL_act_X4 rfl (by decide +kernel)) ?_
  refine al_c (pc := 348) (snd_iload C dL_act_348) ?_
  refine al_c (pc := 350) (snd_iaload C dL_act_350) ?_
  refine al_c (pc := 351) (snd_iload C dL_act_351) ?_
  refine al_c (pc := 353) (snd_iadd C dL_act_353) ?_
  refine al_c (pc := 354) (snd_min C dL_act_354 (by decide +kernel) (by decide +kernel) (by decide +kernel) (by decide +kernel) (by decide) (by decide)) ?_
  refine al_c (pc := 357) (snd_iastore C dL_act_357) ?_
  refine al_c (pc := 358) (snd_aload_n C dL_act_358 rfl) ?_
  refine al_c (pc := 359) (snd_iload C dL_act_359) ?_
  refine al_c (pc := 361) (snd_iload C dL_act_361) ?_
  refine al_c (pc := 363) (snd_GXi C CX (xsite_V C rfl dL_act_363 gL_act_X3_addPaint rfl rfl rfl ⟨rfl, by decide +kernel, by decide +kernel, by decide +kernel⟩ ⟨by decide, by decide⟩) mX3_addPaint exN_FX) ?_
  refine al_c (pc := 366) (snd_aload_n C dL_act_366 rfl) ?_
  refine al_c (pc := 367) (snd_get C dL_act_367 (ci := 3) (kf := 5) rfl (by decide) inL_act_X4 rfl (by decide +kernel)) ?_
  refine al_c (pc := 370) (snd_iload C dL_act_370) ?_
  refine al_c (pc := 372) (snd_iaload C dL_act_372) ?_
  refine al_c (pc := 373) (snd_icmp_ne C dL_act_373 (by decide)) ?_
  refine al_c (pc := 376) (snd_iconst C dL_act_376 (by decide)) ?_
  refine al_c (pc := 377) (snd_goto C dL_act_377 (by decide)) ?_
  refine al_c (pc := 380) (snd_iconst C dL_act_380 (by decide)) ?_
  refine al_c (pc := 381) (snd_Nz C hQ hr dL_act_381) ?_
  refine al_c (pc := 382) (snd_aload_n C dL_act_382 rfl) ?_
  refine al_c (pc := 383) (snd_get C dL_act_383 (ci := 3) (kf := 2) rfl (by decide) inL_act_X4 rfl (by decide +kernel)) ?_
  refine al_c (pc := 386) (snd_iload_n C dL_act_386 rfl) ?_
  refine al_c (pc := 387) (snd_aaload C dL_act_387) ?_
  refine al_c (pc := 388) (snd_iload C dL_act_388) ?_
  refine al_c (pc := 390) (snd_baload C dL_act_390) ?_
  refine al_c (pc := 391) (snd_if_ne C dL_act_391 (by decide)) ?_
  refine al_c (pc := 394) (snd_iconst C dL_act_394 (by decide)) ?_
  refine al_c (pc := 395) (snd_goto C dL_act_395 (by decide)) ?_
  refine al_c (pc := 398) (snd_iconst C dL_act_398 (by decide)) ?_
  refine al_c (pc := 399) (snd_istore C dL_act_399 (by decide)) ?_
  refine al_c (pc := 401) (snd_iload_n C dL_act_401 rfl) ?_
  refine al_c (pc := 402) (snd_aload_n C dL_act_402 rfl) ?_
  refine al_c (pc := 403) (snd_get C dL_act_403 (ci := 3) (kf := 8) rfl (by decide) inL_act_X4 rfl (by decide +kernel)) ?_
  refine al_c (pc := 406) (snd_isub C dL_act_406) ?_
  refine al_c (pc := 407) (snd_abs C dL_act_407 (by decide +kernel) (by decide +kernel) (by decide +kernel) (by decide +kernel) (by decide) (by decide)) ?_
  refine al_c (pc := 410) (snd_iload C dL_act_410) ?_
  refine al_c (pc := 412) (snd_aload_n C dL_act_412 rfl) ?_
  refine al_c (pc := 413) (snd_get C dL_act_413 (ci := 3) (kf := 9) rfl (by decide) inL_act_X4 rfl (by decide +kernel)) ?_
  refine al_c (pc := 416) (snd_isub C dL_act_416) ?_
  refine al_c (pc := 417) (snd_abs C dL_act_417 (by decide +kernel) (by decide +kernel) (by decide +kernel) (by decide +kernel) (by decide) (by decide)) ?_
  refine al_c (pc := 420) (snd_iadd C dL_act_420) ?_
  refine al_c (pc := 421) (snd_istore C dL_act_421 (by decide)) ?_
  refine al_c (pc := 423) (snd_iload C dL_act_423) ?_
  refine al_c (pc := 425) (snd_if_eq C dL_act_425 (by decide)) ?_
  refine al_c (pc := 428) (snd_aload_n C dL_act_428 rfl) ?_
  refine al_c (pc := 429) (snd_iload_n C dL_act_429 rfl) ?_
  refine al_c (pc := 430) (snd_iload C dL_act_430) ?_
  refine al_c (pc := 432) (snd_Qv 9 C CX CN (site_V C rfl dL_act_432 gL_act_X4_put rfl rfl rfl ⟨rfl, by decide +kernel, by decide +kernel, by decide +kernel⟩ ⟨by decide, by decide⟩) mX4_put2) ?_
  refine al_c (pc := 435) (snd_aload_n C dL_act_435 rfl) ?_
  refine al_c (pc := 436) (snd_iload_n C dL_act_436 rfl) ?_
  refine al_c (pc := 437) (snd_iload C dL_act_437) ?_
  refine al_c (pc := 439) (snd_GXi C CX (xsite_V C rfl dL_act_439 gL_act_X3_put rfl rfl rfl ⟨rfl, by decide +kernel, by decide +kernel, by decide +kernel⟩ ⟨by decide, by decide⟩) mX3_put (exH_FX (x := ⟨435, 457, 458, 47⟩) (pre := [⟨215, 244, 245, 47⟩]) (suf := [⟨568, 593, 594, 47⟩]) C hT rfl (fun z hz => by simp only [List.mem_cons, List.not_mem_nil, or_false] at hz; rcases hz with rfl <;> rfl) rfl (by decide) (by decide +kernel) (by decide +kernel) rfl)) ?_
  refine al_c (pc := 442) (snd_iload C dL_act_442) ?_
  refine al_c (pc := 444) (snd_icmp_ne C dL_act_444 (by decide)) ?_
  refine al_c (pc := 447) (snd_iload C dL_act_447) ?_
  refine al_c (pc := 449) (snd_if_eq C dL_act_449 (by decide)) ?_
  refine al_c (pc := 452) (snd_iconst C dL_act_452 (by decide)) ?_
  refine al_c (pc := 453) (snd_goto C dL_act_453 (by decide)) ?_
  refine al_c (pc := 456) (snd_iconst C dL_act_456 (by decide)) ?_
  refine al_c (pc := 457) (snd_Nz C hQ hr dL_act_457) ?_
  refine al_c (pc := 458) (snd_astore C dL_act_458 (by decide)) ?_
  refine al_c (pc := 460) (snd_iload C dL_act_460) ?_
  refine al_c (pc := 462) (snd_if_ne C dL_act_462 (by decide)) ?_
  refine al_c (pc := 465) (snd_iconst C dL_act_465 (by decide)) ?_
  refine al_c (pc := 466) (snd_goto C dL_act_466 (by decide)) ?_
  refine al_c (pc := 469) (snd_iconst C dL_act_469 (by decide)) ?_
  refine al_c (pc := 470) (snd_Nz C hQ hr dL_act_470) ?_
  refine al_c (pc := 471) (snd_iload_n C dL_act_471 rfl) ?_
  refine al_c (pc := 472) (snd_iconst C dL_act_472 (by decide)) ?_
  refine al_c (pc := 473) (snd_ishr C dL_act_473) ?_
  refine al_c (pc := 474) (snd_iconst C dL_act_474 (by decide)) ?_
  refine al_c (pc := 475) (snd_Bi C (site_S C dL_act_475 gL_act_L_below rfl rfl rfl ⟨by decide +kernel, by decide +kernel, by decide +kernel⟩ ⟨by decide, by decide⟩) mL_below) ?_
  refine al_c (pc := 478) (snd_istore C dL_act_478 (by decide)) ?_
  refine al_c (pc := 480) (snd_iconst C dL_act_480 (by decide)) ?_
  refine al_c (pc := 481) (snd_iload_n C dL_act_481 rfl) ?_
  refine al_c (pc := 482) (snd_bipush C dL_act_482 (by decide)) ?_
  refine al_c (pc := 484) (snd_ishr C dL_act_484) ?_
  refine al_c (pc := 485) (snd_iload_n C dL_act_485 rfl) ?_
  refine al_c (pc := 486) (snd_iconst C dL_act_486 (by decide)) ?_
  refine al_c (pc := 487) (snd_ishr C dL_act_487) ?_
  refine al_c (pc := 488) (snd_iconst C dL_act_488 (by decide)) ?_
  refine al_c (pc := 489) (snd_Bi C (site_S C dL_act_489 gL_act_L_below rfl rfl rfl ⟨by decide +kernel, by decide +kernel, by decide +kernel⟩ ⟨by decide, by decide⟩) mL_below) ?_
  refine al_c (pc := 492) (snd_if_ne C dL_act_492 (by decide)) ?_
  refine al_c (pc := 495) (snd_bipush C dL_act_495 (by decide)) ?_
  refine al_c (pc := 497) (snd_goto C dL_act_497 (by decide)) ?_
  refine al_c (pc := 500) (snd_iconst C dL_act_500 (by decide)) ?_
  refine al_c (pc := 501) (snd_Bi C (site_S C dL_act_501 gL_act_L_below rfl rfl rfl ⟨by decide +kernel, by decide +kernel, by decide +kernel⟩ ⟨by decide, by decide⟩) mL_below) ?_
  refine al_c (pc := 504) (snd_iadd C dL_act_504) ?_
  refine al_c (pc := 505) (snd_istore C dL_act_505 (by decide)) ?_
  refine al_c (pc := 507) (snd_iconst C dL_act_507 (by decide)) ?_
  refine al_c (pc := 508) (snd_istore C dL_act_508 (by decide)) ?_
  refine al_c (pc := 510) (snd_iload C dL_act_510) ?_
  refine al_c (pc := 512) (snd_iload C dL_act_512) ?_
  refine al_c (pc := 514) (snd_icmp_ge C dL_act_514 (by decide)) ?_
  refine al_c (pc := 517) (snd_aload_n C dL_act_517 rfl) ?_
  refine al_c (pc := 518) (snd_iload C dL_act_518) ?_
  refine al_c (pc := 520) (snd_Qi 9 C CX CN (site_V C rfl dL_act_520 gL_act_X4_roll rfl rfl rfl ⟨rfl, by decide +kernel, by decide +kernel, by decide +kernel⟩ ⟨by decide, by decide⟩) mX4_roll) ?_
  refine al_c (pc := 523) (snd_if_eq C dL_act_523 (by decide)) ?_
  refine al_c (pc := 526) (snd_iinc C dL_act_526 (by decide) (by decide)) ?_
  refine al_c (pc := 529) (snd_goto C dL_act_529 (by decide)) ?_
  refine al_c (pc := 532) (snd_aload_n C dL_act_532 rfl) ?_
  refine al_c (pc := 533) (snd_iload C dL_act_533) ?_
  refine al_c (pc := 535) (snd_iload C dL_act_535) ?_
  refine al_c (pc := 537) (snd_GXi C CX (xsite_V C rfl dL_act_537 gL_act_X3_rollOn rfl rfl rfl ⟨rfl, by decide +kernel, by decide +kernel, by decide +kernel⟩ ⟨by decide, by decide⟩) mX3_rollOn2 exN_FX) ?_
  refine al_c (pc := 540) (snd_iload C dL_act_540) ?_
  refine al_c (pc := 542) (snd_icmp_ne C dL_act_542 (by decide)) ?_
  refine al_c (pc := 545) (snd_iconst C dL_act_545 (by decide)) ?_
  refine al_c (pc := 546) (snd_goto C dL_act_546 (by decide)) ?_
  refine al_c (pc := 549) (snd_iconst C dL_act_549 (by decide)) ?_
  refine al_c (pc := 550) (snd_Nz C hQ hr dL_act_550) ?_
  refine al_c (pc := 551) (snd_iload_n C dL_act_551 rfl) ?_
  refine al_c (pc := 552) (snd_iconst C dL_act_552 (by decide)) ?_
  refine al_c (pc := 553) (snd_ishr C dL_act_553) ?_
  refine al_c (pc := 554) (snd_iconst C dL_act_554 (by decide)) ?_
  refine al_c (pc := 555) (snd_Bi C (site_S C dL_act_555 gL_act_L_below rfl rfl rfl ⟨by decide +kernel, by decide +kernel, by decide +kernel⟩ ⟨by decide, by decide⟩) mL_below) ?_
  refine al_c (pc := 558) (snd_istore C dL_act_558 (by decide)) ?_
  refine al_c (pc := 560) (snd_aload_n C dL_act_560 rfl) ?_
  refine al_c (pc := 561) (snd_iload C dL_act_561) ?_
  refine al_c (pc := 563) (snd_Qi 9 C CX CN (site_V C rfl dL_act_563 gL_act_X4_roll rfl rfl rfl ⟨rfl, by decide +kernel, by decide +kernel, by decide +kernel⟩ ⟨by decide, by decide⟩) mX4_roll) ?_
  refine al_c (pc := 566) (snd_istore C dL_act_566 (by decide)) ?_
  refine al_c (pc := 568) (snd_aload_n C dL_act_568 rfl) ?_
  refine al_c (pc := 569) (snd_iload C dL_act_569) ?_
  refine al_c (pc := 571) (snd_GXi C CX (xsite_V C rfl dL_act_571 gL_act_X3_roll rfl rfl rfl ⟨rfl, by decide +kernel, by decide +kernel, by decide +kernel⟩ ⟨by decide, by decide⟩) mX3_roll (exH_FX (x := ⟨568, 593, 594, 47⟩) (pre := [⟨215, 244, 245, 47⟩, ⟨435, 457, 458, 47⟩]) (suf := []) C hT rfl (fun z hz => by simp only [List.mem_cons, List.not_mem_nil, or_false] at hz; rcases hz with rfl | rfl <;> rfl) rfl (by decide) (by decide +kernel) (by decide +kernel) rfl)) ?_
  refine al_c (pc := 574) (snd_aload_n C dL_act_574 rfl) ?_
  refine al_c (pc := 575) (snd_get C dL_act_575 (ci := 3) (kf := 10) rfl (by decide) inL_act_X4 rfl (by decide +kernel)) ?_
  refine al_c (pc := 578) (snd_iconst C dL_act_578 (by decide)) ?_
  refine al_c (pc := 579) (snd_iaload C dL_act_579) ?_
  refine al_c (pc := 580) (snd_icmp_ne C dL_act_580 (by decide)) ?_
  refine al_c (pc := 583) (snd_iload C dL_act_583) ?_
  refine al_c (pc := 585) (snd_if_eq C dL_act_585 (by decide)) ?_
  refine al_c (pc := 588) (snd_iconst C dL_act_588 (by decide)) ?_
  refine al_c (pc := 589) (snd_goto C dL_act_589 (by decide)) ?_
  refine al_c (pc := 592) (snd_iconst C dL_act_592 (by decide)) ?_
  refine al_c (pc := 593) (snd_Nz C hQ hr dL_act_593) ?_
  refine al_c (pc := 594) (snd_astore C dL_act_594 (by decide)) ?_
  refine al_c (pc := 596) (snd_iload C dL_act_596) ?_
  refine al_c (pc := 598) (snd_if_ne C dL_act_598 (by decide)) ?_
  refine al_c (pc := 601) (snd_iconst C dL_act_601 (by decide)) ?_
  refine al_c (pc := 602) (snd_goto C dL_act_602 (by decide)) ?_
  refine al_c (pc := 605) (snd_iconst C dL_act_605 (by decide)) ?_
  refine al_c (pc := 606) (snd_Nz C hQ hr dL_act_606) ?_
  exact al_0
set_option maxHeartbeats 4000000 in
set_option maxRecDepth 100000 in
theorem mL_act : nMi yL_act wsL_act rmL_act NL_act tL_act := by
  refine nMw_of (hh := [(215, 244, 245, 47), (435, 457, 458, 47), (568, 593, 594, 47)]) (by decide +kernel) rfl rfl (by intro av X post hT; obtain ⟨B, k, t, w, h, rN, pN, v, fd, wl, pr, fe, qu, co, pa, fw, fp, cs, as, df, rfl, rfl, hB, hI, hp⟩ := hT; exact Nat.le_of_ble_eq_true rfl) ?_
  intro Γ ad av X post C CX CN hTb hQ hr hT
  obtain ⟨B, k, t, w, h, rN, pN, v, fd, wl, pr, fe, qu, co, pa, fw, fp, cs, as, df, rfl, rfl, hB, hI, hp⟩ := hT
  have OK := okL_act C CX CN hTb hQ hr
  obtain ⟨a1, a2, a3, a4, a5, a6, a7, a8, a9, a10, a11, a12, a13, a14, a15⟩ := id hI
  obtain ⟨k1, k2, k3⟩ := id a6
  have hk : k < 49 := by omega
  have ht := vt_lt a5
  have hI50 : IVd (B + 50) k t w h rN pN wl pr co pa fw fp cs as df := IVd_le (by omega) hI
  have len : (CW (nI k) (nI t) (nI rN) (nI pN) (nI w) (nI h) fd wl pr fe qu co pa ++ Zs w h rN pN k fw fp cs as df).length = 15 + w + w := LX_len
  have okX : (CW (nI k) (nI t) (nI rN) (nI pN) (nI w) (nI h) fd wl pr fe qu co pa ++ Zs w h rN pN k fw fp cs as df).all (okE 999) = true := by
    rw [List.all_append, CW_ok (by decide), Zs_ok (by omega)]
    rfl
  have c0b : ∀ (w2 h2 : Nat) (ad2 : Nat → Nat) (df2 : Nat → Int32) (f m : Nat), 2 ≤ w2 → w2 ≤ 7 → 2 ≤ h2 → h2 ≤ 7 → Ag 10 ad ad2 → DF 1 df2 → FG Γ 130 ad2 17 118 [(5, .int (nI f)), (4, .int (nI (m / 7))), (3, .int (nI (m % 7))), (0, .ref 0), (1, .ref 9), (2, .int v)] [] (CW (nI k) (nI t) (nI rN) (nI pN) (nI w) (nI h) fd wl pr fe qu co pa ++ Zs w2 h2 0 0 0 (fun _ _ => 0) (fun _ _ => 0) cs as df2) := by
    intro w2 h2 ad2 df2 f m g1 g2 g3 g4 hag hdf2
    refine go OK [] 60 ?_
    refine gX_of (fs := _) rfl rfl (k_newBoard k t w h (nI rN) (nI pN) fd wl pr fe qu co pa w2 h2 g1 g2 g3 g4) rfl (by decide) (by decide) ?_ (fun _ _ q => q.elim)
    rintro r X2 ⟨rfl, wl2, pr2, z1, z2, rfl⟩
    refine ⟨rfl, ?_⟩
    refine And.intro (fun q => absurd rfl q) (fun _ => ?_)
    refine ⟨by decide, by decide, Or.inr rfl, hag, hp 0 1 w2 h2 0 0 fd wl2 pr2 fe qu co pa (fun _ _ => 0) (fun _ _ => 0) cs as df2 ⟨g1, g2, g3, g4, by decide, ⟨by omega, by omega, z1 0 (by decide)⟩, hdf2, fun c r hc hr => (z1 _ (by omega)).symm, fun c r hc hr => (z2 _ (by omega)).symm, fun c hc => Or.inl (z1 c hc), fun c hc _ => z1 c hc, fun i j hi hj => ?_, a13, Nat.le_refl _, Nat.zero_le _⟩⟩
    rw [z2 _ (by omega)]
    exact inR_at (n := 0) (Nat.le_refl _) (by decide)
  have c0 : ∀ f m : Nat, FG Γ 92 ad 0 0 [(5, .int (nI f)), (4, .int (nI (m / 7))), (3, .int (nI (m % 7))), (0, .ref 0), (1, .ref 9), (2, .int v)] [] (CW (nI k) (nI t) (nI rN) (nI pN) (nI w) (nI h) fd wl pr fe qu co pa ++ Zs w h rN pN k fw fp cs as df) := by
    intro f m
    refine go OK [130] 60 ?_
    refine hB_of 5 (by decide) (by decide) rfl (by decide) (by decide) ?_
    intro j hj
    refine And.intro (fun _ => ?_) (fun _ => ?_)
    · refine hB_of 6 (by decide) (by decide) rfl (by decide) (by decide) ?_
      intro j1 hj1
      refine hB_of 6 (by decide) (by decide) rfl (by decide) (by decide) ?_
      intro j2 hj2
      refine ⟨CW (nI k) (nI t) (nI rN) (nI pN) (nI w) (nI h) fd wl pr fe qu co pa, SW w h (nI rN) (nI pN) (nI (k % 7)) (nI (k / 7)) fw fp cs as df, [.ref 0, .int (nI (2 + j1)), .int (nI (2 + j2))], fun X2 => ∃ df2, DF 1 df2 ∧ X2 = SW (2 + j1) (2 + j2) 0 0 0 0 (fun _ _ => 0) (fun _ _ => 0) cs as df2, rfl, by decide, by decide, rfl, rfl, by rw [← nI_a2, ← nI_a2]; rfl, qOK_of (N0 := 10) (fun _ _ => rfl) (Nat.le_refl _) rfl rfl (CW_ok (by decide)) (SW_ok (by omega)) (by rw [SW_len]; omega) (Or.inr rfl), fun ci hc => by cases hc; exact ⟨0, _, _, rfl, rfl⟩, ⟨2 + j1, 2 + j2, w, h, nI rN, nI pN, nI (k % 7), nI (k / 7), fw, fp, cs, as, df, rfl, rfl, by omega, by omega, a2, fun df2 h9 => ⟨df2, h9, rfl⟩⟩, ?_⟩
      rintro X2 ⟨df2, hdf2, rfl⟩
      refine ⟨by show 1 ≤ _; rw [SW_len]; omega, by rw [SW_len]; omega, SW_ok (by rw [SW_len]; omega), fun adJ hJ => ?_⟩
      exact c0b (2 + j1) (2 + j2) adJ df2 f m (by omega) (by omega) (by omega) (by omega) hJ hdf2
    · exact ⟨by decide, by decide, Or.inr rfl, Ag.rf, hp k t w h rN pN fd wl pr fe qu co pa fw fp cs as df hI50⟩
  have em : ∀ m : Nat, m / 7 * 7 + m % 7 = m := fun m => by omega
  have ix : ∀ n : Nat, n < 7 → vp_in (nI n) 7 := fun n hn => inS hn (by decide)
  -- a wall is turned
  have c12ok : ∀ f m : Nat, m % 7 < w → m / 7 < h → m ≠ k → FG Γ 182 ad 0 0 [(5, .int (nI f)), (4, .int (nI (m / 7))), (3, .int (nI (m % 7))), (0, .ref 0), (1, .ref 9), (2, .int v)] [.int 1] (CW (nI k) (nI t) (nI rN) (nI pN) (nI w) (nI h) fd wl pr fe qu co pa ++ Zs w h rN pN k fw fp cs as df) := by
    intro f m m1 m2 hmk
    have hfw : fw (m % 7) (nI (m / 7)).toNatClampNeg = wl m := by rw [nI_clampS (by omega), a8 _ _ m1 m2, em]
    have g01 : tnW wl m = 0 ∨ tnW wl m = 1 := by
      unfold tnW
      split
      · exact Or.inr rfl
      · exact Or.inl rfl
    have hI2 : IVd (B + 50) k t w h rN pN (upd wl m (tnW wl m)) pr co pa (updR fw (m % 7) (upd (fw (m % 7)) (m / 7) (tnW wl m))) fp cs as df := by
      refine ⟨a1, a2, a3, a4, a5, ⟨k1, k2, by rw [pk_un (fun q => hmk q.symm)]; exact k3⟩, a7, fun c r hc hr => ?_, a9, fun c hc => ?_, fun c hc hn => ?_, a12, a13, a14, by omega⟩
      · unfold updR
        by_cases e : c = m % 7
        · rw [if_pos e]
          by_cases e2 : r = m / 7
          · rw [show r * 7 + c = m by omega, e2, pk_us, pk_us]
          · rw [pk_un e2, pk_un (show ¬ r * 7 + c = m by omega), ← e]
            exact a8 c r hc hr
        · rw [if_neg e, pk_un (show ¬ r * 7 + c = m by omega)]
          exact a8 c r hc hr
      · by_cases e : c = m
        · rw [e, pk_us]
          exact g01
        · rw [pk_un e]
          exact a10 c hc
      · by_cases e : c = m
        · rw [e] at hn
          exact absurd ⟨m1, m2⟩ hn
        · rw [pk_un e]
          exact a11 c hc hn
    have st215 : FG Γ 215 ad 0 0 [(6, .int 1), (5, .int (nI f)), (4, .int (nI (m / 7))), (3, .int (nI (m % 7))), (0, .ref 0), (1, .ref 9), (2, .int v)] [] (CW (nI k) (nI t) (nI rN) (nI pN) (nI w) (nI h) fd wl pr fe qu co pa ++ Zs w h rN pN k (updR fw (m % 7) (upd (fw (m % 7)) (m / 7) (tnW wl m))) fp cs as df) := by
      refine go OK [] 60 ?_
      refine gX_of (fs := _) rfl rfl (k_turnWall k t w h (nI rN) (nI pN) fd wl pr fe qu co pa a2 a4 hk m m1 m2 hmk) rfl (by decide) (by decide) ?_ (fun _ _ q => q.elim)
      rintro r X2 ⟨rfl, rfl⟩
      refine ⟨rfl, true, w, _, m % 7, rfl, rfl, m1, by omega, ?_⟩
      refine gx_of (LX_w m1) ⟨inS m2 (by omega), ?_⟩
      have e9 : updR fw (m % 7) (upd (fw (m % 7)) (m / 7) (tnW wl m)) (m % 7) (nI (m / 7)).toNatClampNeg = tnW wl m := by
        unfold updR
        rw [if_pos rfl, nI_clampS (by omega), pk_us]
      rw [e9]
      refine And.intro (fun q => absurd rfl q) (fun _ => ?_)
      refine And.intro (fun q => absurd q (by decide)) (fun _ => ?_)
      exact ⟨by decide, by decide, Or.inr rfl, Ag.rf, hp k t w h rN pN fd (upd wl m (tnW wl m)) pr fe qu co pa _ fp cs as df hI2⟩
    refine go OK [215] 60 ?_
    refine And.intro (fun q => absurd q (by decide)) (fun _ => ?_)
    refine ⟨true, w, _, m % 7, rfl, rfl, m1, by omega, ?_⟩
    refine ⟨true, w, _, m % 7, rfl, rfl, m1, by omega, ?_⟩
    refine gx_of (LX_w m1) ⟨inS m2 (by omega), ?_⟩
    rw [hfw]
    have ecl : (nI (m / 7)).toNatClampNeg = m / 7 := nI_clampS (by omega)
    refine And.intro (fun q => ?_) (fun q => ?_)
    · refine gx_of (LX_w m1) ⟨inS m2 (by omega), Or.inl rfl, sx_of (by rw [len]; show 6 + m % 7 + 9 < 15 + w + w; omega) ?_⟩
      rw [LX_sw m1, ecl]
      have e9 : tnW wl m = 0 := if_neg q
      rw [e9] at st215
      exact st215
    · refine gx_of (LX_w m1) ⟨inS m2 (by omega), Or.inr rfl, sx_of (by rw [len]; show 6 + m % 7 + 9 < 15 + w + w; omega) ?_⟩
      rw [LX_sw m1, ecl]
      have e9 : tnW wl m = 1 := if_pos q
      rw [e9] at st215
      exact st215
  have c12no : ∀ f : Nat, FG Γ 182 ad 0 0 [(5, .int (nI f)), (4, .int (nI (k / 7))), (3, .int (nI (k % 7))), (0, .ref 0), (1, .ref 9), (2, .int v)] [.int 0] (CW (nI k) (nI t) (nI rN) (nI pN) (nI w) (nI h) fd wl pr fe qu co pa ++ Zs w h rN pN k fw fp cs as df) := by
    intro f
    have st245 : ∀ ad2, Ag 999 ad ad2 → FG Γ 245 ad2 2 12 [(6, .int 0), (5, .int (nI f)), (4, .int (nI (k / 7))), (3, .int (nI (k % 7))), (0, .ref 0), (1, .ref 9), (2, .int v)] [.ref 999] (CW (nI k) (nI t) (nI rN) (nI pN) (nI w) (nI h) fd wl pr fe qu co pa ++ Zs w h rN pN k fw fp cs as df) := by
      intro ad2 hag
      refine go OK [] 60 ?_
      refine And.intro (fun q => absurd rfl q) (fun _ => ?_)
      exact ⟨by decide, by decide, Or.inr rfl, hag.wk (M := 10) (by decide), hp k t w h rN pN fd wl pr fe qu co pa fw fp cs as df hI50⟩
    refine go OK [] 60 ?_
    refine And.intro (fun _ => ?_) (fun q => absurd rfl q)
    refine gX_of (fs := _) rfl rfl (k_turnWallX k t w h (nI rN) (nI pN) fd wl pr fe qu co pa a2 a4 hk k1 k2) rfl (by decide) (by decide) (fun _ _ q => q.elim) ?_
    rintro e X2 ⟨rfl, rfl⟩
    exact ⟨rfl, rfl, rfl, okX, by rw [len]; omega, st245⟩
  have c12 : ∀ f m : Nat, m % 7 < w → m / 7 < h → FG Γ 160 ad 0 0 [(5, .int (nI f)), (4, .int (nI (m / 7))), (3, .int (nI (m % 7))), (0, .ref 0), (1, .ref 9), (2, .int v)] [] (CW (nI k) (nI t) (nI rN) (nI pN) (nI w) (nI h) fd wl pr fe qu co pa ++ Zs w h rN pN k fw fp cs as df) := by
    intro f m m1 m2
    refine go OK [182] 60 ?_
    refine And.intro (fun q => ?_) (fun q => ?_)
    · exact c12ok f m m1 m2 (fun e => q (by rw [e]))
    · refine And.intro (fun q2 => ?_) (fun q2 => ?_)
      · have e1 := (eqN (show m % 7 < 10000 by omega) (show k % 7 < 10000 by omega)).mp q
        have e2 := (eqN (show m / 7 < 10000 by omega) (show k / 7 < 10000 by omega)).mp q2
        have e3 : m = k := by omega
        subst e3
        exact c12no f
      · exact c12ok f m m1 m2 (fun e => q2 (by rw [e]))
  -- a face gets a colour
  have c3 : ∀ f m : Nat, 1 ≤ f → f ≤ 6 → FG Γ 258 ad 0 0 [(5, .int (nI f)), (4, .int (nI (m / 7))), (3, .int (nI (m % 7))), (0, .ref 0), (1, .ref 9), (2, .int v)] [] (CW (nI k) (nI t) (nI rN) (nI pN) (nI w) (nI h) fd wl pr fe qu co pa ++ Zs w h rN pN k fw fp cs as df) := by
    intro f m f1 f6
    have ecl : (nI f).toNatClampNeg = f := nI_clampS (by omega)
    obtain ⟨b1, b2, b3, b4⟩ := a13 f f1 f6
    have st285 : ∀ b, 1 ≤ b → b ≤ 9 → FG Γ 285 ad 0 0 [(6, .int (cs f)), (5, .int (nI f)), (4, .int (nI (m / 7))), (3, .int (nI (m % 7))), (0, .ref 0), (1, .ref 9), (2, .int v)] [] (CW (nI k) (nI t) (nI rN) (nI pN) (nI w) (nI h) fd wl pr fe qu co pa ++ Zs w h rN pN k fw fp (upd cs f (nI b)) as df) := by
      intro b g1 g2
      refine go OK [] 60 ?_
      refine ⟨ix f (by omega), ?_⟩
      rw [ecl, pk_us]
      refine gX_of (fs := _) rfl rfl (k_setColour k t w h (nI rN) (nI pN) fd wl pr fe qu co pa f b f1 f6 g1 g2) rfl (by decide) (by decide) ?_ (fun _ _ q => q.elim)
      rintro r X2 ⟨rfl, rfl⟩
      refine ⟨rfl, ?_⟩
      refine And.intro (fun q => absurd b1.symm q) (fun _ => ?_)
      refine ⟨by decide, by decide, Or.inr rfl, Ag.rf, hp k t w h rN pN fd wl pr fe qu (upd co f (nI b)) pa fw fp (upd cs f (nI b)) as df ⟨a1, a2, a3, a4, a5, a6, a7, a8, a9, a10, a11, a12, fun f2 g3 g4 => ?_, a14, by omega⟩⟩
      by_cases e : f2 = f
      · rw [e, pk_us, pk_us]
        exact ⟨rfl, b2, inR_at g1 g2, b4⟩
      · rw [pk_un e, pk_un e]
        exact a13 f2 g3 g4
    refine go OK [285] 60 ?_
    refine ⟨ix f (by omega), ?_⟩
    rw [ecl]
    refine hB_of 9 (by decide) (by decide) rfl (by decide) (by decide) ?_
    intro j hj
    refine ⟨ix f (by omega), ?_⟩
    rw [ecl]
    have key := st285 (1 + j) (by omega) (by omega)
    rw [← nI_a1] at key
    exact key
  -- a face gets paint
  have c45 : ∀ f m : Nat, 1 ≤ f → f ≤ 6 → FG Γ 309 ad 0 0 [(5, .int (nI f)), (4, .int (nI (m / 7))), (3, .int (nI (m % 7))), (0, .ref 0), (1, .ref 9), (2, .int v)] [] (CW (nI k) (nI t) (nI rN) (nI pN) (nI w) (nI h) fd wl pr fe qu co pa ++ Zs w h rN pN k fw fp cs as df) := by
    intro f m f1 f6
    have ecl : (nI f).toNatClampNeg = f := nI_clampS (by omega)
    obtain ⟨b1, b2, b3, b4⟩ := a13 f f1 f6
    have st358 : ∀ b, 1 ≤ b → b ≤ 20 → FG Γ 358 ad 0 0 [(6, .int (nI b)), (5, .int (nI f)), (4, .int (nI (m / 7))), (3, .int (nI (m % 7))), (0, .ref 0), (1, .ref 9), (2, .int v)] [] (CW (nI k) (nI t) (nI rN) (nI pN) (nI w) (nI h) fd wl pr fe qu co pa ++ Zs w h rN pN k fw fp cs (upd as f (adP as f (nI b))) df) := by
      intro b g1 g2
      have eP : adP pa f (nI b) = adP as f (nI b) := by
        unfold adP
        rw [b2]
      refine go OK [] 60 ?_
      refine gX_of (fs := _) rfl rfl (k_addPaint k t w h (nI rN) (nI pN) fd wl pr fe qu co pa f b f1 f6 g1 g2) rfl (by decide) (by decide) ?_ (fun _ _ q => q.elim)
      rintro r X2 ⟨rfl, rfl⟩
      refine ⟨rfl, ix f (by omega), ?_⟩
      rw [ecl, pk_us]
      refine And.intro (fun q => absurd eP q) (fun _ => ?_)
      refine ⟨by decide, by decide, Or.inr rfl, Ag.rf, hp k t w h rN pN fd wl pr fe qu co (upd pa f (adP pa f (nI b))) fw fp cs (upd as f (adP as f (nI b))) df ⟨a1, a2, a3, a4, a5, a6, a7, a8, a9, a10, a11, a12, fun f2 g3 g4 => ?_, a14, by omega⟩⟩
      by_cases e : f2 = f
      · rw [e, pk_us, pk_us]
        refine ⟨b1, eP.symm, b3, ?_⟩
        obtain ⟨n, e1, n1, n2⟩ := b4
        unfold adP
        rw [e1, nI_add]
        split
        · next q =>
          have := (ltN (show n + b < 10000 by omega) (show 20 < 10000 by decide)).mp q
          exact inR_at (Nat.zero_le _) (by omega)
        · exact inR_at (n := 20) (by decide) (by decide)
      · rw [pk_un e, pk_un e]
        exact a13 f2 g3 g4
    have st336 : ∀ b, 1 ≤ b → b ≤ 20 → FG Γ 336 ad 0 0 [(6, .int (nI b)), (5, .int (nI f)), (4, .int (nI (m / 7))), (3, .int (nI (m % 7))), (0, .ref 0), (1, .ref 9), (2, .int v)] [] (CW (nI k) (nI t) (nI rN) (nI pN) (nI w) (nI h) fd wl pr fe qu co pa ++ Zs w h rN pN k fw fp cs as df) := by
      intro b g1 g2
      refine go OK [358] 60 ?_
      refine ⟨ix f (by omega), ?_⟩
      rw [ecl]
      refine ⟨ix f (by omega), ?_⟩
      rw [ecl]
      exact st358 b g1 g2
    refine go OK [336] 60 ?_
    refine hB_of 3 (by decide) (by decide) rfl (by decide) (by decide) ?_
    intro j hj
    refine And.intro (fun _ => ?_) (fun _ => ?_)
    · refine hB_of 4 (by decide) (by decide) rfl (by decide) (by decide) ?_
      intro j2 hj2
      have key := st336 (1 + j2) (by omega) (by omega)
      rw [← nI_a1] at key
      exact key
    · refine hB_of 20 (by decide) (by decide) rfl (by decide) (by decide) ?_
      intro j2 hj2
      have key := st336 (1 + j2) (by omega) (by omega)
      rw [← nI_a1] at key
      exact key
  -- the die is put
  have c6 : ∀ f m : Nat, m % 7 < w → m / 7 < h → FG Γ 382 ad 0 0 [(5, .int (nI f)), (4, .int (nI (m / 7))), (3, .int (nI (m % 7))), (0, .ref 0), (1, .ref 9), (2, .int v)] [] (CW (nI k) (nI t) (nI rN) (nI pN) (nI w) (nI h) fd wl pr fe qu co pa ++ Zs w h rN pN k fw fp cs as df) := by
    intro f m m1 m2
    have hfw : fw (m % 7) (nI (m / 7)).toNatClampNeg = wl m := by rw [nI_clampS (by omega), a8 _ _ m1 m2, em]
    have st435 : ∀ ad2 df2, Ag 10 ad ad2 → wl m = 0 → DF 1 df2 → FG Γ 435 ad2 1 6 [(7, .int (abI (nI (m % 7) - nI (k % 7)) + abI (nI (m / 7) - nI (k / 7)))), (6, .int 1), (5, .int (nI f)), (4, .int (nI (m / 7))), (3, .int (nI (m % 7))), (0, .ref 0), (1, .ref 9), (2, .int v)] [] (CW (nI k) (nI t) (nI rN) (nI pN) (nI w) (nI h) fd wl pr fe qu co pa ++ Zs w h rN pN m fw fp cs as df2) := by
      intro ad2 df2 hag hm0 hdf2
      refine go OK [] 60 ?_
      refine gX_of (fs := _) rfl rfl (k_put k t w h (nI rN) (nI pN) fd wl pr fe qu co pa a2 a4 hk m m1 m2 hm0) rfl (by decide) (by decide) ?_ (fun _ _ q => q.elim)
      rintro r X2 ⟨rfl, rfl⟩
      refine ⟨rfl, ?_⟩
      refine And.intro (fun q => absurd rfl q) (fun _ => ?_)
      refine And.intro (fun q => absurd q (by decide)) (fun _ => ?_)
      exact ⟨by decide, by decide, Or.inr rfl, hag, hp m 1 w h rN pN fd wl pr fe qu co pa fw fp cs as df2 ⟨a1, a2, a3, a4, by decide, ⟨m1, m2, hm0⟩, hdf2, a8, a9, a10, a11, a12, a13, a14, by omega⟩⟩
    have st458 : ∀ (x : Int32) ad2, Ag 999 ad ad2 → FG Γ 458 ad2 2 12 [(7, .int x), (6, .int 0), (5, .int (nI f)), (4, .int (nI (m / 7))), (3, .int (nI (m % 7))), (0, .ref 0), (1, .ref 9), (2, .int v)] [.ref 999] (CW (nI k) (nI t) (nI rN) (nI pN) (nI w) (nI h) fd wl pr fe qu co pa ++ Zs w h rN pN k fw fp cs as df) := by
      intro x ad2 hag
      refine go OK [] 60 ?_
      refine And.intro (fun q => absurd rfl q) (fun _ => ?_)
      exact ⟨by decide, by decide, Or.inr rfl, hag.wk (M := 10) (by decide), hp k t w h rN pN fd wl pr fe qu co pa fw fp cs as df hI50⟩
    have st399 : ∀ can : Int32, (can = 1 ∧ wl m = 0 ∨ can = 0 ∧ ¬ wl m = 0) → FG Γ 399 ad 0 0 [(5, .int (nI f)), (4, .int (nI (m / 7))), (3, .int (nI (m % 7))), (0, .ref 0), (1, .ref 9), (2, .int v)] [.int can] (CW (nI k) (nI t) (nI rN) (nI pN) (nI w) (nI h) fd wl pr fe qu co pa ++ Zs w h rN pN k fw fp cs as df) := by
      intro can hcan
      refine go OK [435] 60 ?_
      rcases hcan with ⟨rfl, hm0⟩ | ⟨rfl, hm0⟩
      · refine And.intro (fun q => absurd q (by decide)) (fun _ => ?_)
        refine ⟨CW (nI k) (nI t) (nI rN) (nI pN) (nI w) (nI h) fd wl pr fe qu co pa, SW w h (nI rN) (nI pN) (nI (k % 7)) (nI (k / 7)) fw fp cs as df, [.ref 0, .int (nI (m % 7)), .int (nI (m / 7))], fun X2 => ∃ df2, DF 1 df2 ∧ X2 = SW w h (nI rN) (nI pN) (nI (m % 7)) (nI (m / 7)) fw fp cs as df2, rfl, by decide, by decide, rfl, rfl, rfl, qOK_of (N0 := 10) (fun _ _ => rfl) (Nat.le_refl _) rfl rfl (CW_ok (by decide)) (SW_ok (by omega)) (by rw [SW_len]; omega) (Or.inr rfl), fun ci hc => by cases hc; exact ⟨0, _, _, rfl, rfl⟩, ⟨_, _, w, h, nI rN, nI pN, nI (k % 7), nI (k / 7), fw, fp, cs, as, df, rfl, rfl, a2, fun df2 h9 => ⟨df2, h9, rfl⟩⟩, ?_⟩
        rintro X2 ⟨df2, hdf2, rfl⟩
        refine ⟨by show 1 ≤ _; rw [SW_len]; omega, by rw [SW_len]; omega, SW_ok (by rw [SW_len]; omega), fun adJ hJ => ?_⟩
        exact st435 adJ df2 hJ hm0 hdf2
      · refine And.intro (fun _ => ?_) (fun q => absurd rfl q)
        refine go OK [] 60 ?_
        refine gX_of (fs := _) rfl rfl (k_putX k t w h (nI rN) (nI pN) fd wl pr fe qu co pa a2 a4 hk m m1 m2 hm0) rfl (by decide) (by decide) (fun _ _ q => q.elim) ?_
        rintro e X2 ⟨rfl, rfl⟩
        exact ⟨rfl, rfl, rfl, okX, by rw [len]; omega, st458 _⟩
    refine go OK [399] 60 ?_
    refine ⟨true, w, _, m % 7, rfl, rfl, m1, by omega, ?_⟩
    refine gx_of (LX_w m1) ⟨inS m2 (by omega), ?_⟩
    rw [hfw]
    refine And.intro (fun q => ?_) (fun q => ?_)
    · exact st399 0 (Or.inr ⟨rfl, q⟩)
    · exact st399 1 (Or.inl ⟨rfl, q⟩)
  -- it rolls on
  have c78 : ∀ f m : Nat, FG Γ 471 ad 0 0 [(5, .int (nI f)), (4, .int (nI (m / 7))), (3, .int (nI (m % 7))), (0, .ref 0), (1, .ref 9), (2, .int v)] [] (CW (nI k) (nI t) (nI rN) (nI pN) (nI w) (nI h) fd wl pr fe qu co pa ++ Zs w h rN pN k fw fp cs as df) := by
    intro f m
    have st532 : ∀ (d n i k1 t1 rN1 pN1 : Nat) (ad1 : Nat → Nat) (pr1 pa1 : Nat → Int32) (fp1 : Nat → Nat → Int32) (as1 df1 : Nat → Int32), d < 4 → 1 ≤ n → n ≤ 50 → i ≤ n → Ag 10 ad ad1 → IVd (B + i) k1 t1 w h rN1 pN1 wl pr1 co pa1 fw fp1 cs as1 df1 → rollK w h wl co d n (k, t, nI rN, nI pN, pr, pa) = (i, k1, t1, nI rN1, nI pN1, pr1, pa1) → ∀ K S, K ≤ 50 → S ≤ 300 → FG Γ 532 ad1 K S [(8, .int (nI i)), (7, .int (nI n)), (6, .int (nI d)), (5, .int (nI f)), (4, .int (nI (m / 7))), (3, .int (nI (m % 7))), (0, .ref 0), (1, .ref 9), (2, .int v)] [] (CW (nI k) (nI t) (nI rN) (nI pN) (nI w) (nI h) fd wl pr fe qu co pa ++ Zs w h rN1 pN1 k1 fw fp1 cs as1 df1) := by
      intro d n i k1 t1 rN1 pN1 ad1 pr1 pa1 fp1 as1 df1 hd n1 n50 hin hag hI1 hr K S hK hS
      refine FG_wid hK hS ?_
      refine go OK [] 60 ?_
      refine gX_of (fs := _) rfl rfl (k_rollOn k t w h (nI rN) (nI pN) fd wl pr fe qu co pa a2 a4 hk a5 d n hd n1 n50 i k1 t1 (nI rN1) (nI pN1) pr1 pa1 hr) rfl (by decide) (by decide) ?_ (fun _ _ q => q.elim)
      rintro r X2 ⟨rfl, rfl⟩
      refine ⟨rfl, ?_⟩
      refine And.intro (fun q => absurd rfl q) (fun _ => ?_)
      exact ⟨by decide, by decide, Or.inr rfl, hag, hp k1 t1 w h rN1 pN1 fd wl pr1 fe qu co pa1 fw fp1 cs as1 df1 (IVd_le (by omega) hI1)⟩
    have loop : ∀ (d n : Nat), d < 4 → 1 ≤ n → n ≤ 50 → ∀ (g i k1 t1 rN1 pN1 : Nat) (ad1 : Nat → Nat) (pr1 pa1 : Nat → Int32) (fp1 : Nat → Nat → Int32) (as1 df1 : Nat → Int32), i + g = n → Ag 10 ad ad1 → IVd (B + i) k1 t1 w h rN1 pN1 wl pr1 co pa1 fw fp1 cs as1 df1 → rollK w h wl co d n (k, t, nI rN, nI pN, pr, pa) = (i + (rollK w h wl co d g (k1, t1, nI rN1, nI pN1, pr1, pa1)).1, (rollK w h wl co d g (k1, t1, nI rN1, nI pN1, pr1, pa1)).2) → FG Γ 510 ad1 i (6 * i) [(8, .int (nI i)), (7, .int (nI n)), (6, .int (nI d)), (5, .int (nI f)), (4, .int (nI (m / 7))), (3, .int (nI (m % 7))), (0, .ref 0), (1, .ref 9), (2, .int v)] [] (CW (nI k) (nI t) (nI rN) (nI pN) (nI w) (nI h) fd wl pr fe qu co pa ++ Zs w h rN1 pN1 k1 fw fp1 cs as1 df1) := by
      intro d n hd n1 n50 g
      induction g with
      | zero =>
        intro i k1 t1 rN1 pN1 ad1 pr1 pa1 fp1 as1 df1 hin hag hI1 hr
        refine go OK [532] 60 ?_
        refine And.intro (fun q => ?_) (fun q => absurd (show nI n ≤ nI i from (leN (by omega) (by omega)).mpr (by omega)) q)
        exact st532 d n i k1 t1 rN1 pN1 ad1 pr1 pa1 fp1 as1 df1 hd n1 n50 (by omega) hag hI1 hr _ _ (by omega) (by omega)
      | succ g ih =>
        intro i k1 t1 rN1 pN1 ad1 pr1 pa1 fp1 as1 df1 hin hag hI1 hr
        obtain ⟨-, -, -, -, b5, b6, b7, b8, -⟩ := id hI1
        obtain ⟨q1, q2, q3⟩ := id b6
        refine go OK [510, 532] 60 ?_
        refine And.intro (fun q => absurd ((leN (by omega) (by omega)).mp q) (by omega)) (fun _ => ?_)
        refine ⟨CW (nI k) (nI t) (nI rN) (nI pN) (nI w) (nI h) fd wl pr fe qu co pa, SW w h (nI rN1) (nI pN1) (nI (k1 % 7)) (nI (k1 / 7)) fw fp1 cs as1 df1, [.ref 0, .int (nI d)], fun r X2 => (nxt w h wl k1 d = none ∧ r = 0 ∧ X2 = SW w h (nI rN1) (nI pN1) (nI (k1 % 7)) (nI (k1 / 7)) fw fp1 cs as1 df1) ∨ ∃ m2 df2, nxt w h wl k1 d = some m2 ∧ DF (rlN t1 d) df2 ∧ r = 1 ∧ X2 = SW w h (nI rN1 + 1) (pmP as1 (dnF t1 d) (nI pN1)) (nI (m2 % 7)) (nI (m2 / 7)) fw (fpP as1 (dnF t1 d) m2 cs fp1) cs (paP as1 (dnF t1 d)) df2, rfl, by show i + 1 ≤ 60; omega, by show 6 * i + 6 ≤ 400; omega, rfl, rfl, rfl, qOK_of (N0 := 10) (fun i9 h9 => hag i9 (Or.inr h9)) (Nat.le_refl _) rfl rfl (CW_ok (by decide)) (SW_ok (by omega)) (by rw [SW_len]; omega) (Or.inr rfl), fun ci hc => by cases hc; exact ⟨0, _, _, rfl, rfl⟩, ?_, ?_⟩
        · exact ⟨d, k1, t1, w, h, nI rN1, nI pN1, fw, fp1, cs, as1, df1, wl, rfl, rfl, a2, a4, by omega, q1, hd, b5, b7, b8, fun e => Or.inl ⟨e, rfl, rfl⟩, fun m2 df2 e h9 => Or.inr ⟨m2, df2, e, h9, rfl, rfl⟩⟩
        · intro r X2 hor
          rcases hor with ⟨e, rfl, rfl⟩ | ⟨m2, df2, e, hdf2, rfl, rfl⟩
          · refine ⟨by show 1 ≤ _; rw [SW_len]; omega, by rw [SW_len]; omega, SW_ok (by rw [SW_len]; omega), fun adJ hJ => ?_⟩
            refine And.intro (fun _ => ?_) (fun q => absurd rfl q)
            have hst : stepD w h wl co d (k1, t1, nI rN1, nI pN1, pr1, pa1) = none := by
              unfold stepD
              rw [e]
            rw [rollK_no hst] at hr
            exact st532 d n i k1 t1 rN1 pN1 adJ pr1 pa1 fp1 as1 df1 hd n1 n50 (by omega) (hag.tr hJ (Nat.le_refl _)) hI1 hr _ _ (by show i + 1 ≤ 50; omega) (by show 6 * i + 6 ≤ 300; omega)
          · refine ⟨by show 1 ≤ _; rw [SW_len]; omega, by rw [SW_len]; omega, SW_ok (by rw [SW_len]; omega), fun adJ hJ => ?_⟩
            refine And.intro (fun q => absurd q (by decide)) (fun _ => ?_)
            obtain ⟨g1, g2⟩ := IVd_roll hI1 hd e hdf2
            have e1 : nI rN1 + 1 = nI (rN1 + 1) := nI_p1 rN1
            have hst : stepD w h wl co d (k1, t1, nI rN1, nI pN1, pr1, pa1) = some (m2, rlN t1 d, nI (rN1 + 1), nI (pnN pa1 (dnF t1 d) pN1), prP pa1 (dnF t1 d) m2 co pr1, paP pa1 (dnF t1 d)) := by
              unfold stepD
              rw [e]
              show some (m2, rlN t1 d, nI rN1 + 1, pmP pa1 (dnF t1 d) (nI pN1), _, _) = _
              rw [e1, pmP_N]
            have hr2 := hr
            rw [rollK_so hst] at hr2
            have hr3 : rollK w h wl co d n (k, t, nI rN, nI pN, pr, pa) = ((i + 1) + (rollK w h wl co d g (m2, rlN t1 d, nI (rN1 + 1), nI (pnN pa1 (dnF t1 d) pN1), prP pa1 (dnF t1 d) m2 co pr1, paP pa1 (dnF t1 d))).1, (rollK w h wl co d g (m2, rlN t1 d, nI (rN1 + 1), nI (pnN pa1 (dnF t1 d) pN1), prP pa1 (dnF t1 d) m2 co pr1, paP pa1 (dnF t1 d))).2) := by
              rw [hr2]
              show (i + (_ + 1), _) = _
              rw [show ∀ x : Nat, i + (x + 1) = i + 1 + x from fun x => by omega]
            have key := ih (i + 1) m2 (rlN t1 d) (rN1 + 1) (pnN pa1 (dnF t1 d) pN1) adJ (prP pa1 (dnF t1 d) m2 co pr1) (paP pa1 (dnF t1 d)) (fpP as1 (dnF t1 d) m2 cs fp1) (paP as1 (dnF t1 d)) df2 (by omega) (hag.tr hJ (Nat.le_refl _)) g2 hr3
            have eZ : (SW w h (nI rN1 + 1) (pmP as1 (dnF t1 d) (nI pN1)) (nI (m2 % 7)) (nI (m2 / 7)) fw (fpP as1 (dnF t1 d) m2 cs fp1) cs (paP as1 (dnF t1 d)) df2).map (shE 9) = Zs w h (rN1 + 1) (pnN pa1 (dnF t1 d) pN1) m2 fw (fpP as1 (dnF t1 d) m2 cs fp1) cs (paP as1 (dnF t1 d)) df2 := by
              unfold Zs
              rw [e1, g1]
            rw [← eZ, show nI (i + 1) = nI i + 1 from (nI_p1 i).symm, show 6 * (i + 1) = 6 * i + 6 from by omega] at key
            exact key
    have st505 : ∀ (d n : Nat), d < 4 → 1 ≤ n → n ≤ 50 → FG Γ 507 ad 0 0 [(7, .int (nI n)), (6, .int (nI d)), (5, .int (nI f)), (4, .int (nI (m / 7))), (3, .int (nI (m % 7))), (0, .ref 0), (1, .ref 9), (2, .int v)] [] (CW (nI k) (nI t) (nI rN) (nI pN) (nI w) (nI h) fd wl pr fe qu co pa ++ Zs w h rN pN k fw fp cs as df) := by
      intro d n hd n1 n50
      refine go OK [510] 60 ?_
      refine loop d n hd n1 n50 n 0 k t rN pN ad pr pa fp as df (by omega) Ag.rf (IVd_le (by omega) hI) ?_
      rw [Nat.zero_add]
    refine go OK [507] 60 ?_
    refine hB_of 4 (by decide) (by decide) rfl (by decide) (by decide) ?_
    intro d hd
    refine hB_of 4 (by decide) (by decide) rfl (by decide) (by decide) ?_
    intro j hj
    refine And.intro (fun _ => ?_) (fun _ => ?_)
    · refine hB_of 4 (by decide) (by decide) rfl (by decide) (by decide) ?_
      intro j2 hj2
      have key := st505 d (1 + j2) hd (by omega) (by omega)
      rw [← nI_a1] at key
      exact key
    · refine hB_of 50 (by decide) (by decide) rfl (by decide) (by decide) ?_
      intro j2 hj2
      have key := st505 d (1 + j2) hd (by omega) (by omega)
      rw [← nI_a1] at key
      exact key
  -- it rolls once
  have c9 : ∀ f m : Nat, FG Γ 551 ad 0 0 [(5, .int (nI f)), (4, .int (nI (m / 7))), (3, .int (nI (m % 7))), (0, .ref 0), (1, .ref 9), (2, .int v)] [] (CW (nI k) (nI t) (nI rN) (nI pN) (nI w) (nI h) fd wl pr fe qu co pa ++ Zs w h rN pN k fw fp cs as df) := by
    intro f m
    have st594 : ∀ (d : Nat) (ad2 : Nat → Nat), Ag 10 ad ad2 → FG Γ 594 ad2 3 18 [(7, .int 0), (6, .int (nI d)), (5, .int (nI f)), (4, .int (nI (m / 7))), (3, .int (nI (m % 7))), (0, .ref 0), (1, .ref 9), (2, .int v)] [.ref 999] (CW (nI k) (nI t) (nI rN) (nI pN) (nI w) (nI h) fd wl pr fe qu co pa ++ Zs w h rN pN k fw fp cs as df) := by
      intro d ad2 hag
      refine go OK [] 60 ?_
      refine And.intro (fun q => absurd rfl q) (fun _ => ?_)
      exact ⟨by decide, by decide, Or.inr rfl, hag, hp k t w h rN pN fd wl pr fe qu co pa fw fp cs as df hI50⟩
    have st566n : ∀ (d : Nat) (ad2 : Nat → Nat), d < 4 → Ag 10 ad ad2 → nxt w h wl k d = none → FG Γ 566 ad2 1 6 [(6, .int (nI d)), (5, .int (nI f)), (4, .int (nI (m / 7))), (3, .int (nI (m % 7))), (0, .ref 0), (1, .ref 9), (2, .int v)] [.int 0] (CW (nI k) (nI t) (nI rN) (nI pN) (nI w) (nI h) fd wl pr fe qu co pa ++ Zs w h rN pN k fw fp cs as df) := by
      intro d ad2 hd hag e
      refine go OK [] 60 ?_
      refine gX_of (fs := _) rfl rfl (k_rollX k t w h (nI rN) (nI pN) fd wl pr fe qu co pa a2 a4 hk a5 d hd e) rfl (by decide) (by decide) (fun _ _ q => q.elim) ?_
      rintro e9 X2 ⟨rfl, rfl⟩
      exact ⟨rfl, rfl, rfl, okX, by rw [len]; omega, fun ad3 h3 => st594 d ad3 (hag.tr h3 (by decide))⟩
    have st566s : ∀ (d m2 : Nat) (ad2 : Nat → Nat) (fp2 : Nat → Nat → Int32) (as2 df2 : Nat → Int32), d < 4 → Ag 10 ad ad2 → nxt w h wl k d = some m2 → DF (rlN t d) df2 → IVd (B + 1) m2 (rlN t d) w h (rN + 1) (pnN pa (dnF t d) pN) wl (prP pa (dnF t d) m2 co pr) co (paP pa (dnF t d)) fw fp2 cs as2 df2 → FG Γ 566 ad2 1 6 [(6, .int (nI d)), (5, .int (nI f)), (4, .int (nI (m / 7))), (3, .int (nI (m % 7))), (0, .ref 0), (1, .ref 9), (2, .int v)] [.int 1] (CW (nI k) (nI t) (nI rN) (nI pN) (nI w) (nI h) fd wl pr fe qu co pa ++ Zs w h (rN + 1) (pnN pa (dnF t d) pN) m2 fw fp2 cs as2 df2) := by
      intro d m2 ad2 fp2 as2 df2 hd hag e hdf2 hI2
      have ed : df2 (1 : Int32).toNatClampNeg = nI (dnF t d) := hdf2 1 (by decide)
      have e1 : nI rN + 1 = nI (rN + 1) := nI_p1 rN
      refine go OK [] 60 ?_
      refine gX_of (fs := _) rfl rfl (k_roll k t w h (nI rN) (nI pN) fd wl pr fe qu co pa a2 a4 hk a5 d m2 hd e) rfl (by decide) (by decide) ?_ (fun _ _ q => q.elim)
      rintro r X2 ⟨rfl, rfl⟩
      refine ⟨rfl, inS (n := 1) (N := 6) (by decide) (by decide), ?_⟩
      rw [ed]
      refine And.intro (fun q => absurd rfl q) (fun _ => ?_)
      refine And.intro (fun q => absurd q (by decide)) (fun _ => ?_)
      have key := hp m2 (rlN t d) w h (rN + 1) (pnN pa (dnF t d) pN) fd wl (prP pa (dnF t d) m2 co pr) fe qu co (paP pa (dnF t d)) fw fp2 cs as2 df2 (IVd_le (by omega) hI2)
      rw [← pmP_N (pa := pa), ← e1] at key
      exact ⟨by decide, by decide, Or.inr rfl, hag, key⟩
    refine go OK [566] 60 ?_
    refine hB_of 4 (by decide) (by decide) rfl (by decide) (by decide) ?_
    intro d hd
    refine ⟨CW (nI k) (nI t) (nI rN) (nI pN) (nI w) (nI h) fd wl pr fe qu co pa, SW w h (nI rN) (nI pN) (nI (k % 7)) (nI (k / 7)) fw fp cs as df, [.ref 0, .int (nI d)], fun r X2 => (nxt w h wl k d = none ∧ r = 0 ∧ X2 = SW w h (nI rN) (nI pN) (nI (k % 7)) (nI (k / 7)) fw fp cs as df) ∨ ∃ m2 df2, nxt w h wl k d = some m2 ∧ DF (rlN t d) df2 ∧ r = 1 ∧ X2 = SW w h (nI rN + 1) (pmP as (dnF t d) (nI pN)) (nI (m2 % 7)) (nI (m2 / 7)) fw (fpP as (dnF t d) m2 cs fp) cs (paP as (dnF t d)) df2, rfl, by decide, by decide, rfl, rfl, rfl, qOK_of (N0 := 10) (fun _ _ => rfl) (Nat.le_refl _) rfl rfl (CW_ok (by decide)) (SW_ok (by omega)) (by rw [SW_len]; omega) (Or.inr rfl), fun ci hc => by cases hc; exact ⟨0, _, _, rfl, rfl⟩, ?_, ?_⟩
    · exact ⟨d, k, t, w, h, nI rN, nI pN, fw, fp, cs, as, df, wl, rfl, rfl, a2, a4, hk, k1, hd, a5, a7, a8, fun e => Or.inl ⟨e, rfl, rfl⟩, fun m2 df2 e h9 => Or.inr ⟨m2, df2, e, h9, rfl, rfl⟩⟩
    · intro r X2 hor
      rcases hor with ⟨e, rfl, rfl⟩ | ⟨m2, df2, e, hdf2, rfl, rfl⟩
      · refine ⟨by show 1 ≤ _; rw [SW_len]; omega, by rw [SW_len]; omega, SW_ok (by rw [SW_len]; omega), fun adJ hJ => ?_⟩
        exact st566n d adJ hd hJ e
      · refine ⟨by show 1 ≤ _; rw [SW_len]; omega, by rw [SW_len]; omega, SW_ok (by rw [SW_len]; omega), fun adJ hJ => ?_⟩
        obtain ⟨g1, g2⟩ := IVd_roll hI hd e hdf2
        have e1 : nI rN + 1 = nI (rN + 1) := nI_p1 rN
        have key := st566s d m2 adJ (fpP as (dnF t d) m2 cs fp) (paP as (dnF t d)) df2 hd hJ e hdf2 g2
        have eZ : (SW w h (nI rN + 1) (pmP as (dnF t d) (nI pN)) (nI (m2 % 7)) (nI (m2 / 7)) fw (fpP as (dnF t d) m2 cs fp) cs (paP as (dnF t d)) df2).map (shE 9) = Zs w h (rN + 1) (pnN pa (dnF t d) pN) m2 fw (fpP as (dnF t d) m2 cs fp) cs (paP as (dnF t d)) df2 := by
          unfold Zs
          rw [e1, g1]
        rw [← eZ] at key
        exact key
  -- from the entry
  have st36 : ∀ f m : Nat, m % 7 < w → m / 7 < h → 1 ≤ f → f ≤ 6 → FG Γ 36 ad 0 0 [(5, .int (nI f)), (4, .int (nI (m / 7))), (3, .int (nI (m % 7))), (0, .ref 0), (1, .ref 9), (2, .int v)] [] (CW (nI k) (nI t) (nI rN) (nI pN) (nI w) (nI h) fd wl pr fe qu co pa ++ Zs w h rN pN k fw fp cs as df) := by
    intro f m m1 m2 f1 f6
    refine go OK [92, 160, 258, 309, 382, 471, 551] 60 ?_
    refine hB_of 16 (by decide) (by decide) rfl (by decide) (by decide) ?_
    intro s hs
    exact ⟨fun _ => c0 _ _, fun _ => ⟨fun _ => c12 _ _ m1 m2, fun _ => ⟨fun _ => c12 _ _ m1 m2, fun _ => ⟨fun _ => c3 _ _ f1 f6, fun _ => ⟨fun _ => c45 _ _ f1 f6, fun _ => ⟨fun _ => c45 _ _ f1 f6, fun _ => ⟨fun _ => c6 _ _ m1 m2, fun _ => ⟨fun _ => c78 _ _, fun _ => ⟨fun _ => c78 _ _, fun _ => c9 _ _⟩⟩⟩⟩⟩⟩⟩⟩⟩
  refine go OK [36] 60 ?_
  refine hB_of w (by omega) (by omega) rfl (by decide) (by decide) ?_
  intro c hc
  refine hB_of h (by omega) (by omega) rfl (by decide) (by decide) ?_
  intro r hr9
  refine hB_of 6 (by decide) (by decide) rfl (by decide) (by decide) ?_
  intro j hj
  have key := st36 (1 + j) (r * 7 + c) (by omega) (by omega) (by omega) (by omega)
  rw [← nI_a1, show (r * 7 + c) % 7 = c by omega, show (r * 7 + c) / 7 = r by omega] at key
  exact key
