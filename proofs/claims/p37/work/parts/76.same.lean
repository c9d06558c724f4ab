/-! ===== Sim.isSame ===== -/
theorem mean_cc : ∀ s, s < 121 → Op.cmpValue (FP.dcmp (FP.ddiv (FP.i2d (nI s)) six) (FP.ddiv (FP.i2d (nI s)) six)) .l = 0 := by decide +kernel
theorem mean_c0 {pa : Nat → Int32} (h : PB pa) : Op.cmpValue (FP.dcmp (FP.ddiv (FP.i2d (smI pa 6)) six) (FP.ddiv (FP.i2d (smI pa 6)) six)) .l = 0 := by
  obtain ⟨s, h1, h2⟩ := smI_in h 6 (Nat.le_refl 6)
  rw [h1]
  exact mean_cc s (by omega)
theorem aC_id {N : Nat} {π : Nat → Nat} {e : aE} (he : okE N e = true) (hπ : ∀ i, i < N → π i = i) (K : aG) (ad : Nat → Nat) : aC K ad e = aC K ad (reE π e) := by
  rw [aC_re]
  exact (aC_lt (N := N) (fun i hi => congrArg ad (hπ i hi)) he).symm
theorem aC_s9 {N : Nat} {π : Nat → Nat} {e : aE} (he : okE N e = true) (hπ : ∀ i, i < N → π (i + 10) = i + 9) (K : aG) (ad : Nat → Nat) : aC K ad (shE 9 e) = aC K ad (reE π (shE 10 e)) := by
  rw [aC_re, aC_sh, aC_sh]
  exact (aC_lt (N := N) (fun i hi => congrArg ad (hπ i hi)) he).symm
/-- the new row of counts told between the class and Sim -/
def πS (L j : Nat) : Nat := if j < 9 then j else if j = 9 then L else if j < 1000 then j - 1 else j
theorem same_re {C S : List aE} {e0 : aE} {L : Nat} (hC : C.length = 9) (hCo : C.all (okE 9) = true) (hL : L = 9 + S.length) (hS : S.all (okE S.length) = true) (hS9 : S.length < 900) (he : ∀ K ad, aC K ad e0 = aC K ad (reE (πS L) e0)) :
    ∀ j e, (C ++ (e0 :: S.map (shE 10)))[j]? = some e → ∃ e1, ((C ++ S.map (shE 9)) ++ [e0])[πS L j]? = some e1 ∧ ∀ (K : aG) (ad : Nat → Nat), aC K ad e1 = aC K ad (reE (πS L) e) := by
  intro j e hj
  by_cases j9 : j < 9
  · rw [List.getElem?_append_left (by omega)] at hj
    have hp : πS L j = j := if_pos j9
    refine ⟨e, ?_, aC_id (List.all_eq_true.mp hCo e (List.mem_of_getElem? hj)) (fun i hi => if_pos hi)⟩
    rw [hp, List.append_assoc, List.getElem?_append_left (by omega)]
    exact hj
  · rw [List.getElem?_append_right (by omega), hC] at hj
    by_cases j9b : j = 9
    · subst j9b
      cases hj
      refine ⟨e0, ?_, he⟩
      rw [show πS L 9 = L from rfl, List.getElem?_append_right (by rw [List.length_append, List.length_map]; omega), List.length_append, List.length_map, show L - (C.length + S.length) = 0 by omega]
      rfl
    · obtain ⟨i, rfl⟩ : ∃ i, j = i + 10 := ⟨j - 10, by omega⟩
      rw [show i + 10 - 9 = i + 1 by omega, List.getElem?_cons_succ, List.getElem?_map] at hj
      cases hu : S[i]? with
      | none => rw [hu] at hj; cases hj
      | some u =>
        rw [hu] at hj
        cases hj
        have hi := (List.getElem?_eq_some_iff.mp hu).1
        have hp : ∀ i, i < S.length → πS L (i + 10) = i + 9 := fun i hi => by
          unfold πS
          rw [if_neg (by omega), if_neg (by omega), if_pos (by omega)]
          omega
        refine ⟨shE 9 u, ?_, aC_s9 (List.all_eq_true.mp hS u (List.mem_of_getElem? hu)) hp⟩
        rw [hp i hi, List.getElem?_append_left (by rw [List.length_append, List.length_map]; omega), List.getElem?_append_right (by omega), hC, show i + 9 - 9 = i by omega, List.getElem?_map, hu]
        rfl
theorem πS_inj {L n i j : Nat} (hn : n ≤ 900) (hL : n ≤ L + 1) (hi : i < n) (hj : j < n) (h : πS L i = πS L j) : i = j := by
  unfold πS at h
  repeat' split at h
  all_goals omega
section LZS
variable {c w h : Nat} {a1 a2 a3 a4 a5 a6 fd rl ps x y : Int32} {wl pr fe qu co pa : Nat → Int32} {fw fp : Nat → Nat → Int32} {cs as df : Nat → Int32} {e0 : aE}
theorem LZ_w (hc : c < w) : (CW a1 a2 a3 a4 a5 a6 fd wl pr fe qu co pa ++ (e0 :: (SW w h rl ps x y fw fp cs as df).map (shE 10)))[6 + c + 10]? = some (.inl (true, h, fw c)) := by
  rw [List.getElem?_append_right (by rw [CW_len]; omega), CW_len, show 6 + c + 10 - 9 = 6 + c + 1 by omega, List.getElem?_cons_succ, List.getElem?_map, SW_w hc]
  rfl
theorem LZ_p (hc : c < w) : (CW a1 a2 a3 a4 a5 a6 fd wl pr fe qu co pa ++ (e0 :: (SW w h rl ps x y fw fp cs as df).map (shE 10)))[6 + w + c + 10]? = some (.inl (false, h, fp c)) := by
  rw [List.getElem?_append_right (by rw [CW_len]; omega), CW_len, show 6 + w + c + 10 - 9 = 6 + w + c + 1 by omega, List.getElem?_cons_succ, List.getElem?_map, SW_p hc]
  rfl
end LZS
abbrev NX4_isSame : List aE → Nat := fun _ => 9
abbrev tX4_isSame : aTi := fun av X post => ∃ (B k t w h rN pN : Nat) (fd : Int32) (wl pr fe qu co pa : Nat → Int32) (fw fp : Nat → Nat → Int32) (cs as df : Nat → Int32), av = [.ref 9, .ref 0] ∧ X = CW (nI k) (nI t) (nI rN) (nI pN) (nI w) (nI h) fd wl pr fe qu co pa ++ Zs w h rN pN k fw fp cs as df ∧ IVd B k t w h rN pN wl pr co pa fw fp cs as df ∧ ∀ g : Nat → Int32, post 1 (CW (nI k) (nI t) (nI rN) (nI pN) (nI w) (nI h) fd wl pr fe qu co pa ++ (.inl (false, 10, g) :: (SW w h (nI rN) (nI pN) (nI (k % 7)) (nI (k / 7)) fw fp cs as df).map (shE 10)))
abbrev rmX4_isSame : Room := { frames := 8, cells := 200, slots := 1300, locals := 134 }
theorem inX4_isSame_X4 : ∀ w ∈ wsX40, w ∈ wsX4_isSame := by decide +kernel
def tbX4_isSame (post : Int32 → List aE → Prop) (ad0 : Nat → Nat) (N0 : Nat) : List (Nat × aO) := [(0, oC (0) 1),
  (1, oIS 2 2),
  (2, oC (10) 4),
  (4, oNip 10 200 1300 6),
  (6, oAS 3 7),
  (7, oC (0) 8),
  (8, oIS 4 10),
  (10, oIL 4 12),
  (12, oAL 0 13),
  (13, oGet 3 0 16),
  (16, oIc_ge 124 19),
  (19, oC (0) 20),
  (20, oIS 5 22),
  (22, oIL 5 24),
  (24, oAL 0 25),
  (25, oGet 3 1 28),
  (28, oIc_ge 118 31),
  (31, oAL 1 32),
  (32, oIL 4 34),
  (34, oIL 5 36),
  (36, oGXi tX3_isWall 3 2 rmX3_isWall.cells rmX3_isWall.slots 200 1300 39 exN),
  (39, oAL 0 40),
  (40, oGet 3 2 43),
  (43, oIL 4 45),
  (45, oAald 46),
  (46, oIL 5 48),
  (48, oZald 49),
  (49, oIc_ne 73 52),
  (52, oAL 1 53),
  (53, oIL 4 55),
  (55, oIL 5 57),
  (57, oGXi tX3_printAt 3 2 rmX3_printAt.cells rmX3_printAt.slots 200 1300 60 exN),
  (60, oAL 0 61),
  (61, oGet 3 3 64),
  (64, oIL 4 66),
  (66, oAald 67),
  (67, oIL 5 69),
  (69, oIald 70),
  (70, oIc_eq 75 73),
  (73, oC (0) 74),
  (74, oNz post ad0 N0 200 1300),
  (75, oIL 2 76),
  (76, oAL 0 77),
  (77, oGet 3 2 80),
  (80, oIL 4 82),
  (82, oAald 83),
  (83, oIL 5 85),
  (85, oZald 86),
  (86, oIf_eq 93 89),
  (89, oC (1) 90),
  (90, oGo 94),
  (93, oC (0) 94),
  (94, oIadd 95),
  (95, oIS 2 96),
  (96, oAL 3 97),
  (97, oAL 0 98),
  (98, oGet 3 3 101),
  (101, oIL 4 103),
  (103, oAald 104),
  (104, oIL 5 106),
  (106, oIald 107),
  (107, oDup2 108),
  (108, oIald 109),
  (109, oC (1) 110),
  (110, oIadd 111),
  (111, oIast 112),
  (112, oInc 5 1 115),
  (115, oGo 22),
  (118, oInc 4 1 121),
  (121, oGo 10),
  (124, oC (0) 125),
  (125, oIS 4 127),
  (127, oC (1) 128),
  (128, oIS 5 130),
  (130, oIL 5 132),
  (132, oC (7) 134),
  (134, oIc_ge 189 137),
  (137, oAL 1 138),
  (138, oIL 5 140),
  (140, oGXi tX3_colourOf 2 2 rmX3_colourOf.cells rmX3_colourOf.slots 200 1300 143 exN),
  (143, oAL 0 144),
  (144, oGet 3 4 147),
  (147, oIL 5 149),
  (149, oIald 150),
  (150, oIc_ne 169 153),
  (153, oAL 1 154),
  (154, oIL 5 156),
  (156, oGXi tX3_paintOf 2 2 rmX3_paintOf.cells rmX3_paintOf.slots 200 1300 159 exN),
  (159, oAL 0 160),
  (160, oGet 3 5 163),
  (163, oIL 5 165),
  (165, oIald 166),
  (166, oIc_eq 171 169),
  (169, oC (0) 170),
  (170, oNz post ad0 N0 200 1300),
  (171, oIL 4 173),
  (173, oAL 0 174),
  (174, oGet 3 5 177),
  (177, oIL 5 179),
  (179, oIald 180),
  (180, oIadd 181),
  (181, oIS 4 183),
  (183, oInc 5 1 186),
  (186, oGo 130),
  (189, oC (0) 190),
  (190, oIS 5 192),
  (192, oIL 5 194),
  (194, oC (10) 196),
  (196, oIc_ge 220 199),
  (199, oAL 1 200),
  (200, oIL 5 202),
  (202, oGXi tX3_cellsWith 2 2 rmX3_cellsWith.cells rmX3_cellsWith.slots 200 1300 205 exN),
  (205, oAL 3 206),
  (206, oIL 5 208),
  (208, oIald 209),
  (209, oIc_eq 214 212),
  (212, oC (0) 213),
  (213, oNz post ad0 N0 200 1300),
  (214, oInc 5 1 217),
  (217, oGo 192),
  (220, oC (0) 221),
  (221, oIS 5 223),
  (223, oIL 5 225),
  (225, oC (4) 226),
  (226, oIc_ge 270 229),
  (229, oAL 1 230),
  (230, oIL 5 232),
  (232, oGXi tX3_faceTo 2 2 rmX3_faceTo.cells rmX3_faceTo.slots 200 1300 235 exN),
  (235, oAL 0 236),
  (236, oGet 3 10 239),
  (239, oC (2) 240),
  (240, oIL 5 242),
  (242, oIadd 243),
  (243, oIald 244),
  (244, oIc_ne 262 247),
  (247, oAL 1 248),
  (248, oIL 5 250),
  (250, oGXi tX3_canRoll 2 2 rmX3_canRoll.cells rmX3_canRoll.slots 200 1300 253 exN),
  (253, oAL 0 254),
  (254, oIL 5 256),
  (256, oQi ad0 10 NX4_can tX4_can 2 (some 3) rmX4_can.cells rmX4_can.slots 200 1300 259),
  (259, oIc_eq 264 262),
  (262, oC (0) 263),
  (263, oNz post ad0 N0 200 1300),
  (264, oInc 5 1 267),
  (267, oGo 223),
  (270, oAL 1 271),
  (271, oHi tX3_width 1 2 rmX3_width.cells rmX3_width.slots 200 1300 274),
  (274, oAL 0 275),
  (275, oGet 3 0 278),
  (278, oIc_ne 421 281),
  (281, oAL 1 282),
  (282, oHi tX3_height 1 2 rmX3_height.cells rmX3_height.slots 200 1300 285),
  (285, oAL 0 286),
  (286, oGet 3 1 289),
  (289, oIc_ne 421 292),
  (292, oAL 1 293),
  (293, oHi tX3_walls 1 2 rmX3_walls.cells rmX3_walls.slots 200 1300 296),
  (296, oIL 2 297),
  (297, oIc_ne 421 300),
  (300, oAL 1 301),
  (301, oHi tX3_rolls 1 2 rmX3_rolls.cells rmX3_rolls.slots 200 1300 304),
  (304, oAL 0 305),
  (305, oGet 3 6 308),
  (308, oIc_ne 421 311),
  (311, oAL 1 312),
  (312, oHi tX3_prints 1 2 rmX3_prints.cells rmX3_prints.slots 200 1300 315),
  (315, oAL 0 316),
  (316, oGet 3 7 319),
  (319, oIc_ne 421 322),
  (322, oAL 1 323),
  (323, oHi tX3_column 1 2 rmX3_column.cells rmX3_column.slots 200 1300 326),
  (326, oAL 0 327),
  (327, oGet 3 8 330),
  (330, oIc_ne 421 333),
  (333, oAL 1 334),
  (334, oHi tX3_row 1 2 rmX3_row.cells rmX3_row.slots 200 1300 337),
  (337, oAL 0 338),
  (338, oGet 3 9 341),
  (341, oIc_ne 421 344),
  (344, oAL 1 345),
  (345, oHi tX3_top 1 2 rmX3_top.cells rmX3_top.slots 200 1300 348),
  (348, oAL 0 349),
  (349, oGet 3 10 352),
  (352, oC (0) 353),
  (353, oIald 354),
  (354, oIc_ne 421 357),
  (357, oAL 1 358),
  (358, oHi tX3_bottom 1 2 rmX3_bottom.cells rmX3_bottom.slots 200 1300 361),
  (361, oAL 0 362),
  (362, oGet 3 10 365),
  (365, oC (1) 366),
  (366, oIald 367),
  (367, oIc_ne 421 370),
  (370, oAL 1 371),
  (371, oHi tX3_isAsAtFirst 1 2 rmX3_isAsAtFirst.cells rmX3_isAsAtFirst.slots 200 1300 374),
  (374, oAL 0 375),
  (375, oGet 3 10 378),
  (378, oC (0) 379),
  (379, oIald 380),
  (380, oC (1) 381),
  (381, oIc_ne 398 384),
  (384, oAL 0 385),
  (385, oGet 3 10 388),
  (388, oC (2) 389),
  (389, oIald 390),
  (390, oC (2) 391),
  (391, oIc_ne 398 394),
  (394, oC (1) 395),
  (395, oGo 399),
  (398, oC (0) 399),
  (399, oIc_ne 421 402),
  (402, oAL 1 403),
  (403, oHd tX3_meanPaint 1 2 rmX3_meanPaint.cells rmX3_meanPaint.slots 200 1300 406),
  (406, oIL 4 408),
  (408, oI2d 409),
  (409, oCD 4618441417868443648 412),
  (412, oDdiv 413),
  (413, oDcmp .l 414),
  (414, oIf_ne 421 417),
  (417, oC (1) 418),
  (418, oGo 422),
  (421, oC (0) 422),
  (422, oNz post ad0 N0 200 1300)]
set_option maxRecDepth 20000 in
theorem okX4_isSame {Γ : aΓ} {post : Int32 → List aE → Prop} {ad0 : Nat → Nat} {X0 : List aE} {N0 : Nat} (C : FOK Γ cX4_isSame wsX4_isSame RX4 6 rmX4_isSame) (CX : FOX Γ) (CN : FON ad0 Γ) (hQ : isQ Γ (va_Qi (fun r (u : (Nat → Nat) × List aE) => post r u.2) (aBn (gK Γ) ad0 X0 (hsz Γ) N0) (aA (gK Γ) ad0 X0 (hsz Γ))) rmX4_isSame ad0 X0) (hr : rTy Γ = some .boolean) : AllS Γ (tbX4_isSame post ad0 N0) := by
  unfold tbX4_isSame
  refine al_c (pc := 0) (snd_iconst C dX4_isSame_0 (by decide)) ?_
  refine al_c (pc := 1) (snd_istore_n C dX4_isSame_1 rfl (by decide)) ?_
  refine al_c (pc := 2) (snd_bipush C dX4_isSame_2 (by decide)) ?_
  refine al_c (pc := 4) (snd_Nip C (N := 10) (by decide) dX4_isSame_4 (by decide +kernel)) ?_
  refine al_c (pc := 6) (snd_astore_n C dX4_isSame_6 rfl (by decide)) ?_
  refine al_c (pc := 7) (snd_iconst C dX4_isSame_7 (by decide)) ?_
  refine al_c (pc := 8) (snd_istore C dX4_isSame_8 (by decide)) ?_
  refine al_c (pc := 10) (snd_iload C dX4_isSame_10) ?_
  refine al_c (pc := 12) (snd_aload_n C dX4_isSame_12 rfl) ?_
  refine al_c (pc := 13) (snd_get C dX4_isSame_13 (ci := 3) (kf := 0) rfl (by decide) inX4_isSame_X4 rfl (by decide +kernel)) ?_
  refine al_c (pc := 16) (snd_icmp_ge C dX4_isSame_16 (by decide)) ?_
  refine al_c (pc := 19) (snd_iconst C dX4_isSame_19 (by decide)) ?_
  refine al_c (pc := 20) (snd_istore C dX4_isSame_20 (by decide)) ?_
  refine al_c (pc := 22) (snd_iload C dX4_isSame_22) ?_
  refine al_c (pc := 24) (snd_aload_n C dX4_isSame_24 rfl) ?_
  refine al_c (pc := 25) (snd_get C dX4_isSame_25 (ci := 3) (kf := 1) rfl (by decide) inX4_isSame_X4 rfl (by decide +kernel)) ?_
  refine al_c (pc := 28) (snd_icmp_ge C dX4_isSame_28 (by decide)) ?_
  refine al_c (pc := 31) (snd_aload_n C dX4_isSame_31 rfl) ?_
  refine al_c (pc := 32) (snd_iload C dX4_isSame_32) ?_
  refine al_c (pc := 34) (snd_iload C dX4_isSame_34) ?_
  refine al_c (pc := 36) (snd_GXi C CX (xsite_V C rfl dX4_isSame_36 gX4_isSame_X3_isWall rfl rfl rfl ⟨rfl, by decide +kernel, by decide +kernel, by decide +kernel⟩ ⟨by decide, by decide⟩) mX3_isWall exN_FX) ?_
  refine al_c (pc := 39) (snd_aload_n C dX4_isSame_39 rfl) ?_
  refine al_c (pc := 40) (snd_get C dX4_isSame_40 (ci := 3) (kf := 2) rfl (by decide) inX4_isSame_X4 rfl (by decide +kernel)) ?_
  refine al_c (pc := 43) (snd_iload C dX4_isSame_43) ?_
  refine al_c (pc := 45) (snd_aaload C dX4_isSame_45) ?_
  refine al_c (pc := 46) (snd_iload C dX4_isSame_46) ?_
  refine al_c (pc := 48) (snd_baload C dX4_isSame_48) ?_
  refine al_c (pc := 49) (snd_icmp_ne C dX4_isSame_49 (by decide)) ?_
  refine al_c (pc := 52) (snd_aload_n C dX4_isSame_52 rfl) ?_
  refine al_c (pc := 53) (snd_iload C dX4_isSame_53) ?_
  refine al_c (pc := 55) (snd_iload C dX4_isSame_55) ?_
  refine al_c (pc := 57) (snd_GXi C CX (xsite_V C rfl dX4_isSame_57 gX4_isSame_X3_printAt rfl rfl rfl ⟨rfl, by decide +kernel, by decide +kernel, by decide +kernel⟩ ⟨by decide, by decide⟩) mX3_printAt exN_FX) ?_
  refine al_c (pc := 60) (snd_aload_n C dX4_isSame_60 rfl) ?_
  refine al_c (pc := 61) (snd_get C dX4_isSame_61 (ci := 3) (kf := 3) rfl (by decide) inX4_isSame_X4 rfl (by decide +kernel)) ?_
  refine al_c (pc := 64) (snd_iload C dX4_isSame_64) ?_
  refine al_c (pc := 66) (snd_aaload C dX4_isSame_66) ?_
  refine al_c (pc := 67) (snd_iload C dX4_isSame_67) ?_
  refine al_c (pc := 69) (snd_iaload C dX4_isSame_69) ?_
  refine al_c (pc := 70) (snd_icmp_eq C dX4_isSame_70 (by decide)) ?_
  refine al_c (pc := 73) (snd_iconst C dX4_isSame_73 (by decide)) ?_
  refine al_c (pc := 74) (snd_Nz C hQ hr dX4_isSame_74) ?_
  refine al_c (pc := 75) (snd_iload_n C dX4_isSame_75 rfl) ?_
  refine al_c (pc := 76) (snd_aload_n C dX4_isSame_76 rfl) ?_
  refine al_c (pc := 77) (snd_get C dX4_isSame_77 (ci := 3) (kf := 2) rfl (by decide) inX4_isSame_X4 rfl (by decide +kernel)) ?_
  refine al_c (pc := 80) (snd_iload C dX4_isSame_80) ?_
  refine al_c (pc := 82) (snd_aaload C dX4_isSame_82) ?_
  refine al_c (pc := 83) (snd_iload C dX4_isSame_83) ?_
  refine al_c (pc := 85) (snd_baload C dX4_isSame_85) ?_
  refine al_c (pc := 86) (snd_if_eq C dX4_isSame_86 (by decide)) ?_
  refine al_c (pc := 89) (snd_iconst C dX4_isSame_89 (by decide)) ?_
  refine al_c (pc := 90) (snd_goto C dX4_isSame_90 (by decide)) ?_
  refine al_c (pc := 93) (snd_iconst C dX4_isSame_93 (by decide)) ?_
  refine al_c (pc := 94) (snd_iadd C dX4_isSame_94) ?_
  refine al_c (pc := 95) (snd_istore_n C dX4_isSame_95 rfl (by decide)) ?_
  refine al_c (pc := 96) (snd_aload_n C dX4_isSame_96 rfl) ?_
  refine al_c (pc := 97) (snd_aload_n C dX4_isSame_97 rfl) ?_
  refine al_c (pc := 98) (snd_get C dX4_isSame_98 (ci := 3) (kf := 3) rfl (by decide) inX4_isSame_X4 rfl (by decide +kernel)) ?_
  refine al_c (pc := 101) (snd_iload C dX4_isSame_101) ?_
  refine al_c (pc := 103) (snd_aaload C dX4_isSame_103) ?_
  refine al_c (pc := 104) (snd_iload C dX4_isSame_104) ?_
  refine al_c (pc := 106) (snd_iaload C dX4_isSame_106) ?_
  refine al_c (pc := 107) (snd_dup2 C dX4_isSame_107) ?_
  refine al_c (pc := 108) (snd_iaload C dX4_isSame_108) ?_
  refine al_c (pc := 109) (snd_iconst C dX4_isSame_109 (by decide)) ?_
  refine al_c (pc := 110) (snd_iadd C dX4_isSame_110) ?_
  refine al_c (pc := 111) (snd_iastore C dX4_isSame_111) ?_
  refine al_c (pc := 112) (snd_iinc C dX4_isSame_112 (by decide) (by decide)) ?_
  refine al_c (pc := 115) (snd_goto C dX4_isSame_115 (by decide)) ?_
  refine al_c (pc := 118) (snd_iinc C dX4_isSame_118 (by decide) (by decide)) ?_
  refine al_c (pc := 121) (snd_goto C dX4_isSame_121 (by decide)) ?_
  refine al_c (pc := 124) (snd_iconst C dX4_isSame_124 (by decide)) ?_
  refine al_c (pc := 125) (snd_istore C dX4_isSame_125 (by decide)) ?_
  refine al_c (pc := 127) (snd_iconst C dX4_isSame_127 (by decide)) ?_
  refine al_c (pc := 128) (snd_istore C dX4_isSame_128 (by decide)) ?_
  refine al_c (pc := 130) (snd_iload C dX4_isSame_130) ?_
  refine al_c (pc := 132) (snd_bipush C dX4_isSame_132 (by decide)) ?_
  refine al_c (pc := 134) (snd_icmp_ge C dX4_isSame_134 (by decide)) ?_
  refine al_c (pc := 137) (snd_aload_n C dX4_isSame_137 rfl) ?_
  refine al_c (pc := 138) (snd_iload C dX4_isSame_138) ?_
  refine al_c (pc := 140) (snd_GXi C CX (xsite_V C rfl dX4_isSame_140 gX4_isSame_X3_colourOf rfl rfl rfl ⟨rfl, by decide +kernel, by decide +kernel, by decide +kernel⟩ ⟨by decide, by decide⟩) mX3_colourOf exN_FX) ?_
  refine al_c (pc := 143) (snd_aload_n C dX4_isSame_143 rfl) ?_
  refine al_c (pc := 144) (snd_get C dX4_isSame_144 (ci := 3) (kf := 4) rfl (by decide) inX4_isSame_X4 rfl (by decide +kernel)) ?_
  refine al_c (pc := 147) (snd_iload C dX4_isSame_147) ?_
  refine al_c (pc := 149) (snd_iaload C dX4_isSame_149) ?_
  refine al_c (pc := 150) (snd_icmp_ne C dX4_isSame_150 (by decide)) ?_
  refine al_c (pc := 153) (snd_aload_n C dX4_isSame_153 rfl) ?_
  refine al_c (pc := 154) (snd_iload C dX4_isSame_154) ?_
  refine al_c (pc := 156) (snd_GXi C CX (xsite_V C rfl dX4_isSame_156 gX4_isSame_X3_paintOf rfl rfl rfl ⟨rfl, by decide +kernel, by decide +kernel, by decide +kernel⟩ ⟨by decide, by decide⟩) mX3_paintOf exN_FX) ?_
  refine al_c (pc := 159) (snd_aload_n C dX4_isSame_159 rfl) ?_
  refine al_c (pc := 160) (snd_get C dX4_isSame_160 (ci := 3) (kf := 5) rfl (by decide) inX4_isSame_X4 rfl (by decide +kernel)) ?_
  refine al_c (pc := 163) (snd_iload C dX4_isSame_163) ?_
  refine al_c (pc := 165) (snd_iaload C dX4_isSame_165) ?_
  refine al_c (pc := 166) (snd_icmp_eq C dX4_isSame_166 (by decide)) ?_
  refine al_c (pc := 169) (snd_iconst C dX4_isSame_169 (by decide)) ?_
  refine al_c (pc := 170) (snd_Nz C hQ hr dX4_isSame_170) ?_
  refine al_c (pc := 171) (snd_iload C dX4_isSame_171) ?_
  refine al_c (pc := 173) (snd_aload_n C dX4_isSame_173 rfl) ?_
  refine al_c (pc := 174) (snd_get C dX4_isSame_174 (ci := 3) (kf := 5) rfl (by decide) inX4_isSame_X4 rfl (by decide +kernel)) ?_
  refine al_c (pc := 177) (snd_iload C dX4_isSame_177) ?_
  refine al_c (pc := 179) (snd_iaload C dX4_isSame_179) ?_
  refine al_c (pc := 180) (snd_iadd C dX4_isSame_180) ?_
  refine al_c (pc := 181) (snd_istore C dX4_isSame_181 (by decide)) ?_
  refine al_c (pc := 183) (snd_iinc C dX4_isSame_183 (by decide) (by decide)) ?_
  refine al_c (pc := 186) (snd_goto C dX4_isSame_186 (by decide)) ?_
  refine al_c (pc := 189) (snd_iconst C dX4_isSame_189 (by decide)) ?_
  refine al_c (pc := 190) (snd_istore C dX4_isSame_190 (by decide)) ?_
  refine al_c (pc := 192) (snd_iload C dX4_isSame_192) ?_
  refine al_c (pc := 194) (snd_bipush C dX4_isSame_194 (by decide)) ?_
  refine al_c (pc := 196) (snd_icmp_ge C dX4_isSame_196 (by decide)) ?_
  refine al_c (pc := 199) (snd_aload_n C dX4_isSame_199 rfl) ?_
  refine al_c (pc := 200) (snd_iload C dX4_isSame_200) ?_
  refine al_c (pc := 202) (snd_GXi C CX (xsite_V C rfl dX4_isSame_202 gX4_isSame_X3_cellsWith rfl rfl rfl ⟨rfl, by decide +kernel, by decide +kernel, by decide +kernel⟩ ⟨by decide, by decide⟩) mX3_cellsWith exN_FX) ?_
  refine al_c (pc := 205) (snd_aload_n C dX4_isSame_205 rfl) ?_
  refine al_c (pc := 206) (snd_iload C dX4_isSame_206) ?_
  refine al_c (pc := 208) (snd_iaload C dX4_isSame_208) ?_
  refine al_c (pc := 209) (snd_icmp_eq C dX4_isSame_209 (by decide)) ?_
  refine al_c (pc := 212) (snd_iconst C dX4_isSame_212 (by decide)) ?_
  refine al_c (pc := 213) (snd_Nz C hQ hr dX4_isSame_213) ?_
  refine al_c (pc := 214) (snd_iinc C dX4_isSame_214 (by decide) (by decide)) ?_
  refine al_c (pc := 217) (snd_goto C dX4_isSame_217 (by decide)) ?_
  refine al_c (pc := 220) (snd_iconst C dX4_isSame_220 (by decide)) ?_
  refine al_c (pc := 221) (snd_istore C dX4_isSame_221 (by decide)) ?_
  refine al_c (pc := 223) (snd_iload C dX4_isSame_223) ?_
  refine al_c (pc := 225) (snd_iconst C dX4_isSame_225 (by decide)) ?_
  refine al_c (pc := 226) (snd_icmp_ge C dX4_isSame_226 (by decide)) ?_
  refine al_c (pc := 229) (snd_aload_n C dX4_isSame_229 rfl) ?_
  refine al_c (pc := 230) (snd_iload C dX4_isSame_230) ?_
  refine al_c (pc := 232) (snd_GXi C CX (xsite_V C rfl dX4_isSame_232 gX4_isSame_X3_faceTo rfl rfl rfl ⟨rfl, by decide +kernel, by decide +kernel, by decide +kernel⟩ ⟨by decide, by decide⟩) mX3_faceTo exN_FX) ?_
  refine al_c (pc := 235) (snd_aload_n C dX4_isSame_235 rfl) ?_
  refine al_c (pc := 236) (snd_get C dX4_isSame_236 (ci := 3) (kf := 10) rfl (by decide) inX4_isSame_X4 rfl (by decide +kernel)) ?_
  refine al_c (pc := 239) (snd_iconst C dX4_isSame_239 (by decide)) ?_
  refine al_c (pc := 240) (snd_iload C dX4_isSame_240) ?_
  refine al_c (pc := 242) (snd_iadd C dX4_isSame_242) ?_
  refine al_c (pc := 243) (snd_iaload C dX4_isSame_243) ?_
  refine al_c (pc := 244) (snd_icmp_ne C dX4_isSame_244 (by decide)) ?_
  refine al_c (pc := 247) (snd_aload_n C dX4_isSame_247 rfl) ?_
  refine al_c (pc := 248) (snd_iload C dX4_isSame_248) ?_
  refine al_c (pc := 250) (snd_GXi C CX (xsite_V C rfl dX4_isSame_250 gX4_isSame_X3_canRoll rfl rfl rfl ⟨rfl, by decide +kernel, by decide +kernel, by decide +kernel⟩ ⟨by decide, by decide⟩) mX3_canRoll exN_FX) ?_
  refine al_c (pc := 253) (snd_aload_n C dX4_isSame_253 rfl) ?_
  refine al_c (pc := 254) (snd_iload C dX4_isSame_254) ?_
  refine al_c (pc := 256) (snd_Qi 10 C CX CN (site_V C rfl dX4_isSame_256 gX4_isSame_X4_can rfl rfl rfl ⟨rfl, by decide +kernel, by decide +kernel, by decide +kernel⟩ ⟨by decide, by decide⟩) mX4_can) ?_
  refine al_c (pc := 259) (snd_icmp_eq C dX4_isSame_259 (by decide)) ?_
  refine al_c (pc := 262) (snd_iconst C dX4_isSame_262 (by decide)) ?_
  refine al_c (pc := 263) (snd_Nz C hQ hr dX4_isSame_263) ?_
  refine al_c (pc := 264) (snd_iinc C dX4_isSame_264 (by decide) (by decide)) ?_
  refine al_c (pc := 267) (snd_goto C dX4_isSame_267 (by decide)) ?_
  refine al_c (pc := 270) (snd_aload_n C dX4_isSame_270 rfl) ?_
  refine al_c (pc := 271) (snd_Hi C (site_V C rfl dX4_isSame_271 gX4_isSame_X3_width rfl rfl rfl ⟨rfl, by decide +kernel, by decide +kernel, by decide +kernel⟩ ⟨by decide, by decide⟩) mX3_width) ?_
  refine al_c (pc := 274) (snd_aload_n C dX4_isSame_274 rfl) ?_
  refine al_c (pc := 275) (snd_get C dX4_isSame_275 (ci := 3) (kf := 0) rfl (by decide) inX4_isSame_X4 rfl (by decide +kernel)) ?_
  refine al_c (pc := 278) (snd_icmp_ne C dX4_isSame_278 (by decide)) ?_
  refine al_c (pc := 281) (snd_aload_n C dX4_isSame_281 rfl) ?_
  refine al_c (pc := 282) (snd_Hi C (site_V C rfl dX4_isSame_282 gX4_isSame_X3_height rfl rfl rfl ⟨rfl, by decide +kernel, by decide +kernel, by decide +kernel⟩ ⟨by decide, by decide⟩) mX3_height) ?_
  refine al_c (pc := 285) (snd_aload_n C dX4_isSame_285 rfl) ?_
  refine al_c (pc := 286) (snd_get C dX4_isSame_286 (ci := 3) (kf := 1) rfl (by decide) inX4_isSame_X4 rfl (by decide +kernel)) ?_
  refine al_c (pc := 289) (snd_icmp_ne C dX4_isSame_289 (by decide)) ?_
  refine al_c (pc := 292) (snd_aload_n C dX4_isSame_292 rfl) ?_
  refine al_c (pc := 293) (snd_Hi C (site_V C rfl dX4_isSame_293 gX4_isSame_X3_walls rfl rfl rfl ⟨rfl, by decide +kernel, by decide +kernel, by decide +kernel⟩ ⟨by decide, by decide⟩) mX3_walls) ?_
  refine al_c (pc := 296) (snd_iload_n C dX4_isSame_296 rfl) ?_
  refine al_c (pc := 297) (snd_icmp_ne C dX4_isSame_297 (by decide)) ?_
  refine al_c (pc := 300) (snd_aload_n C dX4_isSame_300 rfl) ?_
  refine al_c (pc := 301) (snd_Hi C (site_V C rfl dX4_isSame_301 gX4_isSame_X3_rolls rfl rfl rfl ⟨rfl, by decide +kernel, by decide +kernel, by decide +kernel⟩ ⟨by decide, by decide⟩) mX3_rolls) ?_
  refine al_c (pc := 304) (snd_aload_n C dX4_isSame_304 rfl) ?_
  refine al_c (pc := 305) (snd_get C dX4_isSame_305 (ci := 3) (kf := 6) rfl (by decide) inX4_isSame_X4 rfl (by decide +kernel)) ?_
  refine al_c (pc := 308) (snd_icmp_ne C dX4_isSame_308 (by decide)) ?_
  refine al_c (pc := 311) (snd_aload_n C dX4_isSame_311 rfl) ?_
  refine al_c (pc := 312) (snd_Hi C (site_V C rfl dX4_isSame_312 gX4_isSame_X3_prints rfl rfl rfl ⟨rfl, by decide +kernel, by decide +kernel, by decide +kernel⟩ ⟨by decide, by decide⟩) mX3_prints) ?_
  refine al_c (pc := 315) (snd_aload_n C dX4_isSame_315 rfl) ?_
  refine al_c (pc := 316) (snd_get C dX4_isSame_316 (ci := 3) (kf := 7) rfl (by decide) inX4_isSame_X4 rfl (by decide +kernel)) ?_
  refine al_c (pc := 319) (snd_icmp_ne C dX4_isSame_319 (by decide)) ?_
  refine al_c (pc := 322) (snd_aload_n C dX4_isSame_322 rfl) ?_
  refine al_c (pc := 323) (snd_Hi C (site_V C rfl dX4_isSame_323 gX4_isSame_X3_column rfl rfl rfl ⟨rfl, by decide +kernel, by decide +kernel, by decide +kernel⟩ ⟨by decide, by decide⟩) mX3_column) ?_
  refine al_c (pc := 326) (snd_aload_n C dX4_isSame_326 rfl) ?_
  refine al_c (pc := 327) (snd_get C dX4_isSame_327 (ci := 3) (kf := 8) rfl (by decide) inX4_isSame_X4 rfl (by decide +kernel)) ?_
  refine al_c (pc := 330) (snd_icmp_ne C dX4_isSame_330 (by decide)) ?_
  refine al_c (pc := 333) (snd_aload_n C dX4_isSame_333 rfl) ?_
  refine al_c (pc := 334) (snd_Hi C (site_V C rfl dX4_isSame_334 gX4_isSame_X3_row rfl rfl rfl ⟨rfl, by decide +kernel, by decide +kernel, by decide +kernel⟩ ⟨by decide, by decide⟩) mX3_row) ?_
  refine al_c (pc := 337) (snd_aload_n C dX4_isSame_337 rfl) ?_
  refine al_c (pc := 338) (snd_get C dX4_isSame_338 (ci := 3) (kf := 9) rfl (by decide) inX4_isSame_X4 rfl (by decide +kernel)) ?_
  refine al_c (pc := 341) (snd_icmp_ne C dX4_isSame_341 (by decide)) ?_
  refine al_c (pc := 344) (snd_aload_n C dX4_isSame_344 rfl) ?_
  refine al_c (pc := 345) (snd_Hi C (site_V C rfl dX4_isSame_345 gX4_isSame_X3_top rfl rfl rfl ⟨rfl, by decide +kernel, by decide +kernel, by decide +kernel⟩ ⟨by decide, by decide⟩) mX3_top) ?_
  refine al_c (pc := 348) (snd_aload_n C dX4_isSame_348 rfl) ?_
  refine al_c (pc := 349) (snd_get C dX4_isSame_349 (ci := 3) (kf := 10) rfl (by decide) inX4_isSame_X4 rfl (by decide +kernel)) ?_
  refine al_c (pc := 352) (snd_iconst C dX4_isSame_352 (by decide)) ?_
  refine al_c (pc := 353) (snd_iaload C dX4_isSame_353) ?_
  refine al_c (pc := 354) (snd_icmp_ne C dX4_isSame_354 (by decide)) ?_
  refine al_c (pc := 357) (snd_aload_n C dX4_isSame_357 rfl) ?_
  refine al_c (pc := 358) (snd_Hi C (site_V C rfl dX4_isSame_358 gX4_isSame_X3_bottom rfl rfl rfl ⟨rfl, by decide +kernel, by decide +kernel, by decide +kernel⟩ ⟨by decide, by decide⟩) mX3_bottom) ?_
  refine al_c (pc := 361) (snd_aload_n C dX4_isSame_361 rfl) ?_
  refine al_c (pc := 362) (snd_get C dX4_isSame_362 (ci := 3) (kf := 10) rfl (by decide) inX4_isSame_X4 rfl (by decide +kernel)) ?_
  refine al_c (pc := 365) (snd_iconst C dX4_isSame_365 (by decide)) ?_
  refine al_c (pc := 366) (snd_iaload C dX4_isSame_366) ?_
  refine al_c (pc := 367) (snd_icmp_ne C dX4_isSame_367 (by decide)) ?_
  refine al_c (pc := 370) (snd_aload_n C dX4_isSame_370 rfl) ?_
  refine al_c (pc := 371) (snd_Hi C (site_V C rfl dX4_isSame_371 gX4_isSame_X3_isAsAtFirst rfl rfl rfl ⟨rfl, by decide +kernel, by decide +kernel, by decide +kernel⟩ ⟨by decide, by decide⟩) mX3_isAsAtFirst) ?_
  refine al_c (pc := 374) (snd_aload_n C dX4_isSame_374 rfl) ?_
  refine al_c (pc := 375) (snd_get C dX4_isSame_375 (ci := 3) (kf := 10) rfl (by decide) inX4_isSame_X4 rfl (by decide +kernel)) ?_
  refine al_c (pc := 378) (snd_iconst C dX4_isSame_378 (by decide)) ?_
  refine al_c (pc := 379) (snd_iaload C dX4_isSame_379) ?_
  refine al_c (pc := 380) (snd_iconst C dX4_isSame_380 (by decide)) ?_
  refine al_c (pc := 381) (snd_icmp_ne C dX4_isSame_381 (by decide)) ?_
  refine al_c (pc := 384) (snd_aload_n C dX4_isSame_384 rfl) ?_
  refine al_c (pc := 385) (snd_get C dX4_isSame_385 (ci := 3) (kf := 10) rfl (by decide) inX4_isSame_X4 rfl (by decide +kernel)) ?_
  refine al_c (pc := 388) (snd_iconst C dX4_isSame_388 (by decide)) ?_
  refine al_c (pc := 389) (snd_iaload C dX4_isSame_389) ?_
  refine al_c (pc := 390) (snd_iconst C dX4_isSame_390 (by decide)) ?_
  refine al_c (pc := 391) (snd_icmp_ne C dX4_isSame_391 (by decide)) ?_
  refine al_c (pc := 394) (snd_iconst C dX4_isSame_394 (by decide)) ?_
  refine al_c (pc := 395) (snd_goto C dX4_isSame_395 (by decide)) ?_
  refine al_c (pc := 398) (snd_iconst C dX4_isSame_398 (by decide)) ?_
  refine al_c (pc := 399) (snd_icmp_ne C dX4_isSame_399 (by decide)) ?_
  refine al_c (pc := 402) (snd_aload_n C dX4_isSame_402 rfl) ?_
  refine al_c (pc := 403) (snd_Hd C (site_V C rfl dX4_isSame_403 gX4_isSame_X3_meanPaint rfl rfl rfl ⟨rfl, by decide +kernel, by decide +kernel, by decide +kernel⟩ ⟨by decide, by decide⟩) mX3_meanPaint) ?_
  refine al_c (pc := 406) (snd_iload C dX4_isSame_406) ?_
  refine al_c (pc := 408) (snd_i2d C dX4_isSame_408) ?_
  refine al_c (pc := 409) (snd_ldc2d C dX4_isSame_409 (by decide +kernel)) ?_
  refine al_c (pc := 412) (snd_ddiv C dX4_isSame_412) ?_
  refine al_c (pc := 413) (snd_dcmp C dX4_isSame_413) ?_
  refine al_c (pc := 414) (snd_if_ne C dX4_isSame_414 (by decide)) ?_
  refine al_c (pc := 417) (snd_iconst C dX4_isSame_417 (by decide)) ?_
  refine al_c (pc := 418) (snd_goto C dX4_isSame_418 (by decide)) ?_
  refine al_c (pc := 421) (snd_iconst C dX4_isSame_421 (by decide)) ?_
  refine al_c (pc := 422) (snd_Nz C hQ hr dX4_isSame_422) ?_
  exact al_0
set_option maxHeartbeats 4000000 in
set_option maxRecDepth 100000 in
theorem mX4_isSame : nMi yX4_isSame wsX4_isSame rmX4_isSame NX4_isSame tX4_isSame := by
  refine nMz_of (by decide +kernel) rfl rfl (by intro av X post hT; obtain ⟨B, k, t, w, h, rN, pN, fd, wl, pr, fe, qu, co, pa, fw, fp, cs, as, df, rfl, rfl, hI, hp⟩ := hT; exact Nat.le_of_ble_eq_true rfl) ?_
  intro Γ ad av X post C CX CN hQ hr hT
  obtain ⟨B, k, t, w, h, rN, pN, fd, wl, pr, fe, qu, co, pa, fw, fp, cs, as, df, rfl, rfl, hI, hp⟩ := hT
  have OK := okX4_isSame C CX CN hQ hr
  obtain ⟨a1, a2, a3, a4, a5, a6, a7, a8, a9, a10, a11, a12, a13, a14, a15⟩ := id hI
  obtain ⟨k1, k2, k3⟩ := id a6
  have hk : k < 49 := by omega
  have ht := vt_lt a5
  have hwh : w * h ≤ 49 := Nat.mul_le_mul a2 a4
  have hPB := cpB_PB a13
  -- the numbers
  have st270 : ∀ (g : Nat → Int32) (ad2 : Nat → Nat) (K S : Nat) (x5 : Int32), K ≤ 150 → S ≤ 900 → Ag 9 ad ad2 → FG Γ 270 ad2 K S [(5, .int x5), (4, .int (smI pa 6)), (3, .ref 9), (2, .int (nI (ct2 (fun c r => decide (¬ wl (r * 7 + c) = 0)) h w))), (0, .ref 10), (1, .ref 0)] [] (CW (nI k) (nI t) (nI rN) (nI pN) (nI w) (nI h) fd wl pr fe qu co pa ++ (.inl (false, 10, g) :: (SW w h (nI rN) (nI pN) (nI (k % 7)) (nI (k / 7)) fw fp cs as df).map (shE 10))) := by
    intro g ad2 K S x5 hK hS hag
    have i6 : ∀ n, n < 6 → vp_in (nI n) 6 := fun n hn => inS hn (by decide)
    have d0 : df (0 : Int32).toNatClampNeg = nI (t / 6 + 1) := a7 0 (by decide)
    have d1 : df (1 : Int32).toNatClampNeg = nI (7 - (t / 6 + 1)) := a7 1 (by decide)
    have d2 : df (2 : Int32).toNatClampNeg = nI (t % 6 + 1) := a7 2 (by decide)
    have st370 : FG Γ 370 ad2 K S [(5, .int x5), (4, .int (smI pa 6)), (3, .ref 9), (2, .int (nI (ct2 (fun c r => decide (¬ wl (r * 7 + c) = 0)) h w))), (0, .ref 10), (1, .ref 0)] [] (CW (nI k) (nI t) (nI rN) (nI pN) (nI w) (nI h) fd wl pr fe qu co pa ++ (.inl (false, 10, g) :: (SW w h (nI rN) (nI pN) (nI (k % 7)) (nI (k / 7)) fw fp cs as df).map (shE 10))) := by
      have st402 : FG Γ 402 ad2 K S [(5, .int x5), (4, .int (smI pa 6)), (3, .ref 9), (2, .int (nI (ct2 (fun c r => decide (¬ wl (r * 7 + c) = 0)) h w))), (0, .ref 10), (1, .ref 0)] [] (CW (nI k) (nI t) (nI rN) (nI pN) (nI w) (nI h) fd wl pr fe qu co pa ++ (.inl (false, 10, g) :: (SW w h (nI rN) (nI pN) (nI (k % 7)) (nI (k / 7)) fw fp cs as df).map (shE 10))) := by
        refine go OK [] 60 ?_
        refine hd_of (fs := _) rfl rfl (k_meanPaint k t w h (nI rN) (nI pN) fd wl pr fe qu co pa hPB) rfl (by show K + 0 ≤ 200; omega) (by show S + 0 ≤ 1300; omega) ?_
        rintro r X2 ⟨rfl, rfl⟩
        refine ⟨rfl, mean_n64 hPB, ?_⟩
        refine And.intro (fun q => absurd (mean_c0 hPB) q) (fun _ => ?_)
        exact ⟨by show K + 0 ≤ 200; omega, by show S + 0 ≤ 1300; omega, Or.inr rfl, hag, hp g⟩
      refine go OK [402] 60 ?_
      refine hi_of (fs := _) rfl rfl (k_isAsAtFirst k t w h (nI rN) (nI pN) fd wl pr fe qu co pa ht) rfl (by show K + 0 ≤ 200; omega) (by show S + 0 ≤ 1300; omega) ?_
      rintro r X2 ⟨rfl, rfl⟩
      refine ⟨rfl, i6 0 (by decide), ?_⟩
      rw [d0]
      refine And.intro (fun q => ?_) (fun q => ?_)
      · have t1 : ¬ t = 1 := fun e => q (by rw [e]; rfl)
        rw [if_neg t1]
        exact And.intro (fun q => absurd rfl q) (fun _ => st402)
      · refine ⟨i6 2 (by decide), ?_⟩
        rw [d2]
        have e1 := (eqN (show t / 6 + 1 < 10000 by omega) (show 1 < 10000 by decide)).mp q
        refine And.intro (fun q2 => ?_) (fun q2 => ?_)
        · have t1 : ¬ t = 1 := fun e => q2 (by rw [e]; rfl)
          rw [if_neg t1]
          exact And.intro (fun q => absurd rfl q) (fun _ => st402)
        · have e2 := (eqN (show t % 6 + 1 < 10000 by omega) (show 2 < 10000 by decide)).mp q2
          have t1 : t = 1 := by omega
          rw [if_pos t1]
          exact And.intro (fun q => absurd rfl q) (fun _ => st402)
    refine go OK [370] 100 ?_
    refine hi_of (fs := _) rfl rfl (k_width k t w h (nI rN) (nI pN) fd wl pr fe qu co pa) rfl (by show K + 0 ≤ 200; omega) (by show S + 0 ≤ 1300; omega) ?_
    rintro r X2 ⟨rfl, rfl⟩
    refine ⟨rfl, ?_⟩
    refine And.intro (fun q => absurd rfl q) (fun _ => ?_)
    refine hi_of (fs := _) rfl rfl (k_height k t w h (nI rN) (nI pN) fd wl pr fe qu co pa) rfl (by show K + 0 + 0 ≤ 200; omega) (by show S + 0 + 0 ≤ 1300; omega) ?_
    rintro r X2 ⟨rfl, rfl⟩
    refine ⟨rfl, ?_⟩
    refine And.intro (fun q => absurd rfl q) (fun _ => ?_)
    refine hi_of (fs := _) rfl rfl (k_walls k t w h (nI rN) (nI pN) fd wl pr fe qu co pa) rfl (by show K + 0 + 0 + 0 ≤ 200; omega) (by show S + 0 + 0 + 0 ≤ 1300; omega) ?_
    rintro r X2 ⟨rfl, rfl⟩
    refine ⟨rfl, ?_⟩
    refine And.intro (fun q => absurd (congrArg nI (walls_ct2 (by omega) a2 a4 a11)) q) (fun _ => ?_)
    refine hi_of (fs := _) rfl rfl (k_rolls k t w h (nI rN) (nI pN) fd wl pr fe qu co pa) rfl (by show K + 0 + 0 + 0 + 0 ≤ 200; omega) (by show S + 0 + 0 + 0 + 0 ≤ 1300; omega) ?_
    rintro r X2 ⟨rfl, rfl⟩
    refine ⟨rfl, ?_⟩
    refine And.intro (fun q => absurd rfl q) (fun _ => ?_)
    refine hi_of (fs := _) rfl rfl (k_prints k t w h (nI rN) (nI pN) fd wl pr fe qu co pa) rfl (by show K + 0 + 0 + 0 + 0 + 0 ≤ 200; omega) (by show S + 0 + 0 + 0 + 0 + 0 ≤ 1300; omega) ?_
    rintro r X2 ⟨rfl, rfl⟩
    refine ⟨rfl, ?_⟩
    refine And.intro (fun q => absurd rfl q) (fun _ => ?_)
    refine hi_of (fs := _) rfl rfl (k_column k t w h (nI rN) (nI pN) fd wl pr fe qu co pa hk) rfl (by show K + 0 + 0 + 0 + 0 + 0 + 0 ≤ 200; omega) (by show S + 0 + 0 + 0 + 0 + 0 + 0 ≤ 1300; omega) ?_
    rintro r X2 ⟨rfl, rfl⟩
    refine ⟨rfl, ?_⟩
    refine And.intro (fun q => absurd rfl q) (fun _ => ?_)
    refine hi_of (fs := _) rfl rfl (k_row k t w h (nI rN) (nI pN) fd wl pr fe qu co pa hk) rfl (by show K + 0 + 0 + 0 + 0 + 0 + 0 + 0 ≤ 200; omega) (by show S + 0 + 0 + 0 + 0 + 0 + 0 + 0 ≤ 1300; omega) ?_
    rintro r X2 ⟨rfl, rfl⟩
    refine ⟨rfl, ?_⟩
    refine And.intro (fun q => absurd rfl q) (fun _ => ?_)
    refine hi_of (fs := _) rfl rfl (k_top k t w h (nI rN) (nI pN) fd wl pr fe qu co pa ht) rfl (by show K + 0 + 0 + 0 + 0 + 0 + 0 + 0 + 0 ≤ 200; omega) (by show S + 0 + 0 + 0 + 0 + 0 + 0 + 0 + 0 ≤ 1300; omega) ?_
    rintro r X2 ⟨rfl, rfl⟩
    refine ⟨rfl, i6 0 (by decide), ?_⟩
    rw [d0]
    refine And.intro (fun q => absurd rfl q) (fun _ => ?_)
    refine hi_of (fs := _) rfl rfl (k_bottom k t w h (nI rN) (nI pN) fd wl pr fe qu co pa ht) rfl (by show K + 0 + 0 + 0 + 0 + 0 + 0 + 0 + 0 + 0 ≤ 200; omega) (by show S + 0 + 0 + 0 + 0 + 0 + 0 + 0 + 0 + 0 ≤ 1300; omega) ?_
    rintro r X2 ⟨rfl, rfl⟩
    refine ⟨rfl, i6 1 (by decide), ?_⟩
    rw [d1]
    refine And.intro (fun q => absurd rfl q) (fun _ => ?_)
    exact st370
  -- the directions
  have lpD : ∀ (g : Nat → Int32) (n d : Nat), d + n = 4 → ∀ (ad2 : Nat → Nat) (K S : Nat), K + 2 * n ≤ 150 → S + 12 * n ≤ 900 → Ag 9 ad ad2 → FG Γ 223 ad2 K S [(5, .int (nI d)), (4, .int (smI pa 6)), (3, .ref 9), (2, .int (nI (ct2 (fun c r => decide (¬ wl (r * 7 + c) = 0)) h w))), (0, .ref 10), (1, .ref 0)] [] (CW (nI k) (nI t) (nI rN) (nI pN) (nI w) (nI h) fd wl pr fe qu co pa ++ (.inl (false, 10, g) :: (SW w h (nI rN) (nI pN) (nI (k % 7)) (nI (k / 7)) fw fp cs as df).map (shE 10))) := by
    intro g n
    induction n with
    | zero =>
      intro d hd ad2 K S hK hS hag
      obtain rfl : d = 4 := by omega
      refine go OK [270] 60 ?_
      refine And.intro (fun _ => ?_) (fun q => absurd (show (4 : Int32) ≤ nI 4 by decide) q)
      exact st270 g ad2 K S (nI 4) (by omega) (by omega) hag
    | succ n ih =>
      intro d hd ad2 K S hK hS hag
      have hd4 : d < 4 := by omega
      have e9 : df (nI (2 + d)).toNatClampNeg = nI (faN t d) := by
        rw [nI_clampS (by omega), a7 (2 + d) (by omega)]
        have h4 : d = 0 ∨ d = 1 ∨ d = 2 ∨ d = 3 := by omega
        rcases h4 with rfl | rfl | rfl | rfl <;> rfl
      refine go OK [223] 60 ?_
      refine And.intro (fun q => absurd ((leN (a := 4) (by omega) (by omega)).mp q) (by omega)) (fun _ => ?_)
      refine gX_of (fs := _) rfl rfl (k_faceTo k t w h (nI rN) (nI pN) fd wl pr fe qu co pa a5 d hd4) rfl (by show K + 1 ≤ 200; omega) (by show S + 6 ≤ 1300; omega) ?_ (fun _ _ q => q.elim)
      rintro r X2 ⟨rfl, rfl⟩
      refine ⟨rfl, ?_⟩
      refine ⟨by rw [nI_a2]; exact inS (show 2 + d < 6 by omega) (by decide), ?_⟩
      rw [nI_a2, e9]
      refine And.intro (fun q => absurd rfl q) (fun _ => ?_)
      refine gX_of (fs := _) rfl rfl (k_canRoll k t w h (nI rN) (nI pN) fd wl pr fe qu co pa a2 a4 hk d hd4) rfl (by show K + 1 + 1 ≤ 200; omega) (by show S + 6 + 6 ≤ 1300; omega) ?_ (fun _ _ q => q.elim)
      rintro r X2 ⟨rfl, rfl⟩
      refine ⟨rfl, ?_⟩
      have l10 : (CW (nI k) (nI t) (nI rN) (nI pN) (nI w) (nI h) fd wl pr fe qu co pa ++ [.inl (false, 10, g)] : List aE).length = 10 := rfl
      refine ⟨CW (nI k) (nI t) (nI rN) (nI pN) (nI w) (nI h) fd wl pr fe qu co pa ++ [.inl (false, 10, g)], SW w h (nI rN) (nI pN) (nI (k % 7)) (nI (k / 7)) fw fp cs as df, [.ref 0, .int (nI d)], fun r X2 => r = (if (nxt w h wl k d).isSome then 1 else 0) ∧ X2 = SW w h (nI rN) (nI pN) (nI (k % 7)) (nI (k / 7)) fw fp cs as df, rfl, by show K + 1 + 1 + 0 ≤ 200; omega, by show S + 6 + 6 + 0 ≤ 1300; omega, l10, by rw [List.append_assoc]; rfl, rfl, qOK_of (N0 := 11) (fun i hi => hag i (Or.inr hi)) (by show 11 ≤ 10 + (SW _ _ _ _ _ _ _ _ _ _ _).length; rw [SW_len]; omega) rfl rfl (by rw [List.all_append, CW_ok (by decide)]; rfl) (SW_ok (by omega)) (by rw [SW_len]; omega) (Or.inr rfl), fun ci hc => by cases hc; exact ⟨0, _, _, rfl, rfl⟩, ⟨d, k, w, h, nI rN, nI pN, fw, fp, cs, as, df, wl, rfl, rfl, a2, a4, hk, hd4, a8, rfl, rfl⟩, ?_⟩
      rintro r X2 ⟨rfl, rfl⟩
      refine ⟨Nat.le_refl _, by rw [SW_len]; omega, SW_ok (by rw [SW_len]; omega), fun adJ hJ => ?_⟩
      refine And.intro (fun _ => ?_) (fun q => absurd rfl q)
      have key := ih (d + 1) (by omega) adJ (K + 1 + 1) (S + 6 + 6) (by omega) (by omega) (hag.tr hJ (by show 9 ≤ 10 + (SW _ _ _ _ _ _ _ _ _ _ _).length; rw [SW_len]; omega))
      rw [← nI_p1 d] at key
      rw [List.append_assoc]
      exact key
  -- the prints by colours
  have lpK : ∀ (g : Nat → Int32), (∀ v, v < 10 → g v = nI (ct2 (fun c r => decide (pr (r * 7 + c) = nI v)) h w)) → ∀ (n v : Nat), v + n = 10 → ∀ (ad2 : Nat → Nat) (K S : Nat), K + n ≤ 130 → S + 6 * n ≤ 800 → Ag 9 ad ad2 → FG Γ 192 ad2 K S [(5, .int (nI v)), (4, .int (smI pa 6)), (3, .ref 9), (2, .int (nI (ct2 (fun c r => decide (¬ wl (r * 7 + c) = 0)) h w))), (0, .ref 10), (1, .ref 0)] [] (CW (nI k) (nI t) (nI rN) (nI pN) (nI w) (nI h) fd wl pr fe qu co pa ++ (.inl (false, 10, g) :: (SW w h (nI rN) (nI pN) (nI (k % 7)) (nI (k / 7)) fw fp cs as df).map (shE 10))) := by
    intro g hg n
    induction n with
    | zero =>
      intro v hv ad2 K S hK hS hag
      obtain rfl : v = 10 := by omega
      refine go OK [223] 60 ?_
      refine And.intro (fun _ => ?_) (fun q => absurd (show (10 : Int32) ≤ nI 10 by decide) q)
      exact lpD g 4 0 rfl ad2 K S (by omega) (by omega) hag
    | succ n ih =>
      intro v hv ad2 K S hK hS hag
      refine go OK [192] 60 ?_
      refine And.intro (fun q => absurd ((leN (a := 10) (by omega) (by omega)).mp q) (by omega)) (fun _ => ?_)
      refine gX_of (fs := _) rfl rfl (k_cellsWith k t w h (nI rN) (nI pN) fd wl pr fe qu co pa a2 a4 v (by omega)) rfl (by show K + 1 ≤ 200; omega) (by show S + 6 ≤ 1300; omega) ?_ (fun _ _ q => q.elim)
      rintro r X2 ⟨rfl, rfl⟩
      refine ⟨rfl, inS (show v < 10 by omega) (by decide), ?_⟩
      rw [nI_clampS (show v < 10000 by omega), hg v (by omega), prints_ct2]
      refine And.intro (fun _ => ?_) (fun q => absurd rfl q)
      have key := ih (v + 1) (by omega) ad2 (K + 1) (S + 6) (by omega) (by omega) hag
      rw [← nI_p1 v] at key
      exact key
  -- the faces
  have lpF : ∀ (g : Nat → Int32), (∀ v, v < 10 → g v = nI (ct2 (fun c r => decide (pr (r * 7 + c) = nI v)) h w)) → ∀ (n f : Nat), f + n = 6 → ∀ (ad2 : Nat → Nat) (K S : Nat), K + 2 * n ≤ 115 → S + 12 * n ≤ 700 → Ag 9 ad ad2 → FG Γ 130 ad2 K S [(5, .int (nI (f + 1))), (4, .int (smI pa f)), (3, .ref 9), (2, .int (nI (ct2 (fun c r => decide (¬ wl (r * 7 + c) = 0)) h w))), (0, .ref 10), (1, .ref 0)] [] (CW (nI k) (nI t) (nI rN) (nI pN) (nI w) (nI h) fd wl pr fe qu co pa ++ (.inl (false, 10, g) :: (SW w h (nI rN) (nI pN) (nI (k % 7)) (nI (k / 7)) fw fp cs as df).map (shE 10))) := by
    intro g hg n
    induction n with
    | zero =>
      intro f hf ad2 K S hK hS hag
      obtain rfl : f = 6 := by omega
      refine go OK [192] 60 ?_
      refine And.intro (fun _ => ?_) (fun q => absurd (show (7 : Int32) ≤ nI 7 by decide) q)
      exact lpK g hg 10 0 rfl ad2 K S (by omega) (by omega) hag
    | succ n ih =>
      intro f hf ad2 K S hK hS hag
      obtain ⟨b1, b2, b3, b4⟩ := a13 (f + 1) (by omega) (by omega)
      have ecl : (nI (f + 1)).toNatClampNeg = f + 1 := nI_clampS (by omega)
      refine go OK [130] 60 ?_
      refine And.intro (fun q => absurd ((leN (a := 7) (by omega) (by omega)).mp q) (by omega)) (fun _ => ?_)
      refine gX_of (fs := _) rfl rfl (k_colourOf k t w h (nI rN) (nI pN) fd wl pr fe qu co pa (f + 1) (by omega) (by omega)) rfl (by show K + 1 ≤ 200; omega) (by show S + 6 ≤ 1300; omega) ?_ (fun _ _ q => q.elim)
      rintro r X2 ⟨rfl, rfl⟩
      refine ⟨rfl, inS (show f + 1 < 7 by omega) (by decide), ?_⟩
      rw [ecl, b1]
      refine And.intro (fun q => absurd rfl q) (fun _ => ?_)
      refine gX_of (fs := _) rfl rfl (k_paintOf k t w h (nI rN) (nI pN) fd wl pr fe qu co pa (f + 1) (by omega) (by omega)) rfl (by show K + 1 + 1 ≤ 200; omega) (by show S + 6 + 6 ≤ 1300; omega) ?_ (fun _ _ q => q.elim)
      rintro r X2 ⟨rfl, rfl⟩
      refine ⟨rfl, inS (show f + 1 < 7 by omega) (by decide), ?_⟩
      rw [ecl, b2]
      refine And.intro (fun _ => ?_) (fun q => absurd rfl q)
      refine ⟨inS (show f + 1 < 7 by omega) (by decide), ?_⟩
      rw [ecl, b2]
      have key := ih (f + 1) (by omega) ad2 (K + 1 + 1) (S + 6 + 6) (by omega) (by omega) hag
      rw [← nI_p1 (f + 1)] at key
      exact key
  have st124 : ∀ (g : Nat → Int32), (∀ v, v < 10 → g v = nI (ct2 (fun c r => decide (pr (r * 7 + c) = nI v)) h w)) → ∀ (ad2 : Nat → Nat) (K S : Nat), K ≤ 101 → S ≤ 610 → Ag 9 ad ad2 → FG Γ 124 ad2 K S [(4, .int (nI w)), (3, .ref 9), (2, .int (nI (ct2 (fun c r => decide (¬ wl (r * 7 + c) = 0)) h w))), (0, .ref 10), (1, .ref 0)] [] (CW (nI k) (nI t) (nI rN) (nI pN) (nI w) (nI h) fd wl pr fe qu co pa ++ (.inl (false, 10, g) :: (SW w h (nI rN) (nI pN) (nI (k % 7)) (nI (k / 7)) fw fp cs as df).map (shE 10))) := by
    intro g hg ad2 K S hK hS hag
    refine go OK [130] 60 ?_
    exact lpF g hg 6 0 rfl ad2 K S (by omega) (by omega) hag
  -- the cells
  have outer : ∀ (m c : Nat), c + m = w → ∀ (g : Nat → Int32) (ad2 : Nat → Nat) (K S : Nat), (∀ v, v < 10 → g v = nI (ct2 (fun c r => decide (pr (r * 7 + c) = nI v)) h c)) → K + 14 * m ≤ 101 → S + 84 * m ≤ 610 → Ag 9 ad ad2 → FG Γ 10 ad2 K S [(4, .int (nI c)), (3, .ref 9), (2, .int (nI (ct2 (fun c r => decide (¬ wl (r * 7 + c) = 0)) h c))), (0, .ref 10), (1, .ref 0)] [] (CW (nI k) (nI t) (nI rN) (nI pN) (nI w) (nI h) fd wl pr fe qu co pa ++ (.inl (false, 10, g) :: (SW w h (nI rN) (nI pN) (nI (k % 7)) (nI (k / 7)) fw fp cs as df).map (shE 10))) := by
    intro m
    induction m with
    | zero =>
      intro c hc g ad2 K S hg hK hS hag
      obtain rfl : c = w := by omega
      refine go OK [124] 60 ?_
      refine And.intro (fun _ => ?_) (fun q => absurd (Int32.le_refl _) q)
      exact st124 g hg ad2 K S (by omega) (by omega) hag
    | succ m ih =>
      intro c hc g ad2 K S hg hK hS hag
      have hcw : c < w := by omega
      have hcl : ct2 (fun c r => decide (¬ wl (r * 7 + c) = 0)) h c ≤ h * c := ct2_le _ _ _
      have hc7 : h * c ≤ 49 := Nat.le_trans (Nat.mul_le_mul_left h (show c ≤ 7 by omega)) (by omega)
      have inner : ∀ (n r : Nat), r + n = h → ∀ (g : Nat → Int32) (K S : Nat), (∀ v, v < 10 → g v = nI (ct2 (fun c r => decide (pr (r * 7 + c) = nI v)) h c + ct (fun r => decide (pr (r * 7 + c) = nI v)) r)) → K + 2 * n + 14 * m ≤ 101 → S + 12 * n + 84 * m ≤ 610 → FG Γ 22 ad2 K S [(5, .int (nI r)), (4, .int (nI c)), (3, .ref 9), (2, .int (nI (ct2 (fun c r => decide (¬ wl (r * 7 + c) = 0)) h c + ct (fun r => decide (¬ wl (r * 7 + c) = 0)) r))), (0, .ref 10), (1, .ref 0)] [] (CW (nI k) (nI t) (nI rN) (nI pN) (nI w) (nI h) fd wl pr fe qu co pa ++ (.inl (false, 10, g) :: (SW w h (nI rN) (nI pN) (nI (k % 7)) (nI (k / 7)) fw fp cs as df).map (shE 10))) := by
        intro n
        induction n with
        | zero =>
          intro r hr g K S hg hK hS
          obtain rfl : r = h := by omega
          refine go OK [10] 60 ?_
          refine And.intro (fun _ => ?_) (fun q => absurd (Int32.le_refl _) q)
          refine FG_pick (ls' := [(4, .int (nI c + 1)), (3, .ref 9), (2, .int (nI (ct2 (fun c r => decide (¬ wl (r * 7 + c) = 0)) r c + ct (fun r => decide (¬ wl (r * 7 + c) = 0)) r))), (0, .ref 10), (1, .ref 0)]) [0, 2, 3, 4, 5] rfl ?_
          rw [nI_p1]
          exact ih (c + 1) (by omega) g ad2 K S hg (by omega) (by omega) hag
        | succ n ih2 =>
          intro r hr g K S hg hK hS
          have hrh : r < h := by omega
          have hw0 : (if wl (r * 7 + c) = 0 then (0 : Int32) else 1) = fw c (nI r).toNatClampNeg := by
            rw [nI_clampS (by omega), a8 c r hcw hrh]
            rcases a10 (r * 7 + c) (by omega) with z | z
            · rw [if_pos z, z]
            · rw [if_neg (by rw [z]; decide), z]
          have hp0 : fp c (nI r).toNatClampNeg = pr (r * 7 + c) := by rw [nI_clampS (by omega), a9 c r hcw hrh]
          obtain ⟨v, hv, hv1, hv2⟩ := a12 c r hcw hrh
          have ecl : (nI v).toNatClampNeg = v := nI_clampS (by omega)
          have hcr : ct (fun r => decide (¬ wl (r * 7 + c) = 0)) r ≤ r := ct_le2 _ _
          -- behind the walls' count
          have st95 : ∀ x : Int32, x = nI (ct2 (fun c r => decide (¬ wl (r * 7 + c) = 0)) h c + ct (fun r => decide (¬ wl (r * 7 + c) = 0)) (r + 1)) → FG Γ 95 ad2 (K + 1 + 1) (S + 6 + 6) [(5, .int (nI r)), (4, .int (nI c)), (3, .ref 9), (2, .int (nI (ct2 (fun c r => decide (¬ wl (r * 7 + c) = 0)) h c + ct (fun r => decide (¬ wl (r * 7 + c) = 0)) r))), (0, .ref 10), (1, .ref 0)] [.int x] (CW (nI k) (nI t) (nI rN) (nI pN) (nI w) (nI h) fd wl pr fe qu co pa ++ (.inl (false, 10, g) :: (SW w h (nI rN) (nI pN) (nI (k % 7)) (nI (k / 7)) fw fp cs as df).map (shE 10))) := by
            intro x hx
            refine go OK [22] 60 ?_
            refine ⟨false, w, _, c, rfl, rfl, hcw, by omega, ?_⟩
            refine gx_of (LZ_p hcw) ⟨inS hrh (by omega), ?_⟩
            rw [hp0, hv]
            refine ⟨inS (show v < 10 by omega) (by decide), ?_⟩
            rw [ecl]
            refine ⟨inS (show v < 10 by omega) (by decide), ?_⟩
            rw [ecl]
            refine FG_pick (ls' := [(5, .int (nI r + 1)), (4, .int (nI c)), (3, .ref 9), (2, .int x), (0, .ref 10), (1, .ref 0)]) [0, 2, 3, 1, 4, 5] rfl ?_
            rw [nI_p1, hx]
            refine ih2 (r + 1) (by omega) (upd g v (g v + 1)) (K + 1 + 1) (S + 6 + 6) (fun u hu => ?_) (by omega) (by omega)
            show _ = nI (_ + (ct (fun r => decide (pr (r * 7 + c) = nI u)) r + (if decide (pr (r * 7 + c) = nI u) then 1 else 0)))
            by_cases e : u = v
            · rw [e, pk_us, hg v (by omega), hv, nI_p1]
              simp
              rw [Nat.add_assoc]
            · have hne : ¬ pr (r * 7 + c) = nI u := fun z => e ((eqN (by omega) (by omega)).mp (hv.symm.trans z)).symm
              rw [pk_un e, hg u hu]
              simp [hne]
          refine go OK [95] 60 ?_
          refine And.intro (fun q => absurd ((leN (by omega) (by omega)).mp q) (by omega)) (fun _ => ?_)
          refine gX_of (fs := _) rfl rfl (k_isWall k t w h (nI rN) (nI pN) fd wl pr fe qu co pa a2 a4 c r hcw hrh) rfl (by show K + 1 ≤ 200; omega) (by show S + 6 ≤ 1300; omega) ?_ (fun _ _ q => q.elim)
          rintro r9 X2 ⟨rfl, rfl⟩
          refine ⟨rfl, true, w, _, c, rfl, rfl, hcw, by omega, ?_⟩
          refine gx_of (LZ_w hcw) ⟨inS hrh (by omega), ?_⟩
          refine And.intro (fun q => absurd hw0 q) (fun _ => ?_)
          refine gX_of (fs := _) rfl rfl (k_printAt k t w h (nI rN) (nI pN) fd wl pr fe qu co pa a2 a4 c r hcw hrh) rfl (by show K + 1 + 1 ≤ 200; omega) (by show S + 6 + 6 ≤ 1300; omega) ?_ (fun _ _ q => q.elim)
          rintro r9 X2 ⟨rfl, rfl⟩
          refine ⟨rfl, false, w, _, c, rfl, rfl, hcw, by omega, ?_⟩
          refine gx_of (LZ_p hcw) ⟨inS hrh (by omega), ?_⟩
          refine And.intro (fun _ => ?_) (fun q => absurd hp0.symm q)
          refine ⟨true, w, _, c, rfl, rfl, hcw, by omega, ?_⟩
          refine gx_of (LZ_w hcw) ⟨inS hrh (by omega), ?_⟩
          rw [← hw0]
          by_cases z : wl (r * 7 + c) = 0
          · rw [if_pos z]
            refine And.intro (fun _ => ?_) (fun q => absurd rfl q)
            refine st95 _ ?_
            rw [show ∀ y : Int32, y + 0 = y from fun y => Int32.add_zero y]
            show _ = nI (_ + (ct (fun r => decide (¬ wl (r * 7 + c) = 0)) r + (if decide (¬ wl (r * 7 + c) = 0) then 1 else 0)))
            simp [z]
          · rw [if_neg z]
            refine And.intro (fun q => absurd q (by decide)) (fun _ => ?_)
            refine st95 _ ?_
            rw [nI_p1]
            show _ = nI (_ + (ct (fun r => decide (¬ wl (r * 7 + c) = 0)) r + (if decide (¬ wl (r * 7 + c) = 0) then 1 else 0)))
            simp [z, Nat.add_assoc]
      refine go OK [22] 60 ?_
      refine And.intro (fun q => absurd ((leN (by omega) (by omega)).mp q) (by omega)) (fun _ => ?_)
      exact inner h 0 (by omega) g K S (fun v hv => hg v hv) (by omega) (by omega)
  -- the row of counts told between
  have st7 : ∀ (ad2 : Nat → Nat), Ag (15 + w + w) ad ad2 → FG Γ 7 ad2 1 10 [(3, .ref (15 + w + w)), (2, .int 0), (0, .ref 9), (1, .ref 0)] [] ((CW (nI k) (nI t) (nI rN) (nI pN) (nI w) (nI h) fd wl pr fe qu co pa ++ (SW w h (nI rN) (nI pN) (nI (k % 7)) (nI (k / 7)) fw fp cs as df).map (shE 9)) ++ [.inl (false, 10, fun _ => 0)]) := by
    intro ad2 hag
    refine FG_rp (πS (15 + w + w)) (X2 := CW (nI k) (nI t) (nI rN) (nI pN) (nI w) (nI h) fd wl pr fe qu co pa ++ (.inl (false, 10, fun _ => 0) :: (SW w h (nI rN) (nI pN) (nI (k % 7)) (nI (k / 7)) fw fp cs as df).map (shE 10))) (same_re rfl (CW_ok (by decide)) (by rw [SW_len]; omega) (SW_ok (by rw [SW_len]; omega)) (by rw [SW_len]; omega) (fun K ad => rfl)) (fun i j hi hj e => πS_inj (n := 16 + w + w) (by omega) (by omega) (by rw [List.length_append, List.length_cons, List.length_map, SW_len, CW_len] at hi; omega) (by rw [List.length_append, List.length_cons, List.length_map, SW_len, CW_len] at hj; omega) e) (ls' := [(3, .ref 9), (2, .int 0), (0, .ref 10), (1, .ref 0)]) (st' := []) rfl rfl ?_
    refine go OK [10] 60 ?_
    refine FG_pick (ls' := [(4, .int (nI 0)), (3, .ref 9), (2, .int (nI (ct2 (fun c r => decide (¬ wl (r * 7 + c) = 0)) h 0))), (0, .ref 10), (1, .ref 0)]) [0, 1, 2, 3, 4] rfl ?_
    refine outer w 0 (by omega) (fun _ => 0) _ 1 10 (fun v hv => rfl) (by omega) (by omega) (fun i hi => ?_)
    have hi' : i < 9 ∨ 1000 ≤ i := hi
    have hp9 : πS (15 + w + w) i = i := by
      unfold πS
      rcases hi' with z | z
      · rw [if_pos z]
      · rw [if_neg (by omega), if_neg (by omega), if_neg (by omega)]
    show ad2 (πS (15 + w + w) i) = ad i
    rw [hp9]
    exact hag i (by omega)
  have hlen : (CW (nI k) (nI t) (nI rN) (nI pN) (nI w) (nI h) fd wl pr fe qu co pa ++ (SW w h (nI rN) (nI pN) (nI (k % 7)) (nI (k / 7)) fw fp cs as df).map (shE 9)).length = 15 + w + w := LX_len
  have hok : (CW (nI k) (nI t) (nI rN) (nI pN) (nI w) (nI h) fd wl pr fe qu co pa ++ (SW w h (nI rN) (nI pN) (nI (k % 7)) (nI (k / 7)) fw fp cs as df).map (shE 9)).all (okE (CW (nI k) (nI t) (nI rN) (nI pN) (nI w) (nI h) fd wl pr fe qu co pa ++ (SW w h (nI rN) (nI pN) (nI (k % 7)) (nI (k / 7)) fw fp cs as df).map (shE 9)).length) = true := by
    rw [hlen, List.all_append, CW_ok (by omega)]
    exact Zs_ok (Nat.le_refl _)
  refine go OK [7] 60 ?_
  refine ⟨rfl, okWl_mono (N := 10) (by rw [hlen]; omega) rfl, rfl, hok, by decide, by decide, by rw [hlen]; omega, fun ad2 hag => ?_⟩
  have key := st7 ad2 (by rw [← hlen]; exact hag)
  rw [← hlen] at key
  exact key
